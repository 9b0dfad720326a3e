set_option maxHeartbeats 4000000 in
set_option maxRecDepth 100000 in
theorem sX_X10_seen_1 (NF : Nat) (l : Launch) (dC : Nat → ClassId) (dI : Nat → Nat → Nat) (cy : Nat → ClassId) (x0 : Nat) (x : Nat → Nat) (p1 : Int32) (p2 : Int32) (v : Nat → Int32) (f : Nat → Nat → Int32) (hIv : XI v)  : ctI l (dC, dI) cy yX10_seen cX10_seen 3 .int 2 83 0 0 ((Nat → Int32) × (Nat → Nat → Int32)) [.ref x0, .int p1, .int p2] (XW cy x0 x v f) (fun r u => gsX_X10_seen_1 NF p1 p2 v f = (r, u) ∧ KV [41] u.1 v ∧ KF [23, 24, 25, 26] u.2 f ∧ XI u.1 ∧ u.1 0 = v 0 ∧ u.1 1 = v 1 ∧ u.1 7 = v 7 ∧ u.1 8 = v 8 ∧ u.1 9 = v 9 ∧ u.1 10 = v 10 ∧ u.1 31 = v 31 ∧ u.1 32 = v 32) (fun u => XW cy x0 x u.1 u.2) := by
  refine ctI_of (by decide) (Nat.le_of_ble_eq_true rfl) (fun p e s m below meth c A ls Q hx hb hml hts hown hE hP hD hA hl ret => ?_)
  have hM_v : KV [41] v v := fun _ _ => rfl
  have hA_f : KF [23, 24, 25, 26] f f := fun _ _ => rfl
  have hown : s.vm.findClass RX10 = some m.cls := hown
  have hS : va_S A s.heap s.heap [] := va_S.rf
  have hl : lv_has ls 3 [(0, .ref x0), (1, .int p1), (2, .int p2)] := hl
  refine lv_aload_n hx hb dX10_seen_0 rfl (lv_at hl 0 rfl) ?_
  refine va_get (D := (dC, dI)) (ci := 10) (v := .ref (x 26)) (C := RX10) (T := TX10) (N := 10) hx hb hts inB_10 hown hE.1 hP 0 rfl rfl 2 (Nat.le_of_ble_eq_true rfl) (hts _ k_493) (fun _ h9 => h9) rfl dX10_seen_1 ?_
  refine va_getN (D := (dC, dI)) (ci := 7) (v := .int (v 31)) (C := RX7) (T := TX7) (N := 10) hx hb hts inB_7 hown hE.1 hP 27 rfl rfl 3 (Nat.le_of_ble_eq_true rfl) (va_Nw.use rfl (hE.2 _ k_214)) (fun _ h9 => h9) rfl dX10_seen_4 ?_
  refine lv_if_eq (tgt := 20) hx hb dX10_seen_7 rfl (fun c1 => ?_) (fun c1 => ?_)
  · skip
    refine lv_iconst (v := (-1)) hx hb dX10_seen_20 rfl ?_
    exact ret (-1) (v, f) _ _ _ _ _ _ rfl ⟨(gsX_X10_seen_1_q0 c1), hM_v, hA_f, hIv, rfl, rfl, rfl, rfl, rfl, rfl, rfl, rfl⟩ hP hD hS dX10_seen_21 (Nat.le_refl _) (Nat.le_refl _)
  · skip
    refine lv_aload_n hx hb dX10_seen_10 rfl (lv_at hl 0 rfl) ?_
    refine va_get (D := (dC, dI)) (ci := 10) (v := .ref (x 26)) (C := RX10) (T := TX10) (N := 10) hx hb hts inB_10 hown hE.1 hP 0 rfl rfl 2 (Nat.le_of_ble_eq_true rfl) (hts _ k_493) (fun _ h9 => h9) rfl dX10_seen_11 ?_
    refine va_getN (D := (dC, dI)) (ci := 7) (v := .int (v 32)) (C := RX7) (T := TX7) (N := 10) hx hb hts inB_7 hown hE.1 hP 27 rfl rfl 4 (Nat.le_of_ble_eq_true rfl) (va_Nw.use rfl (hE.2 _ k_227)) (fun _ h9 => h9) rfl dX10_seen_14 ?_
    refine lv_if_ne (tgt := 22) hx hb dX10_seen_17 rfl (fun c2 => ?_) (fun c2 => ?_)
    · skip
      refine lv_aload_n hx hb dX10_seen_22 rfl (lv_at hl 0 rfl) ?_
      refine va_get (D := (dC, dI)) (ci := 10) (v := .ref (x 35)) (C := RX10) (T := TX10) (N := 10) hx hb hts inB_10 hown hE.1 hP 0 rfl rfl 8 (Nat.le_of_ble_eq_true rfl) (hts _ k_499) (fun _ h9 => h9) rfl dX10_seen_23 ?_
      refine lv_iload_n hx hb dX10_seen_26 rfl (lv_at hl 1 rfl) ?_
      refine lv_iload_n hx hb dX10_seen_27 rfl (lv_at hl 2 rfl) ?_
      refine lv_aload_n hx hb dX10_seen_28 rfl (lv_at hl 0 rfl) ?_
      refine va_get (D := (dC, dI)) (ci := 10) (v := .int (v 0)) (C := RX10) (T := TX10) (N := 10) hx hb hts inB_10 hown hE.1 hP 0 rfl rfl 9 (Nat.le_of_ble_eq_true rfl) (hts _ k_500) (fun _ h9 => h9) rfl dX10_seen_29 ?_
      refine cbVi (n := 3) (rest := []) hx hb hml hown hts hE hP hD hS hA (sX_X8_tell_1 NF l dC dI cy x0 x p1 p2 (v 0) v f hIv ) k_1226 k_1227 k_1228 k_112 k_1229 hd_yX8_tell ⟨Nat.le_of_ble_eq_true rfl, Nat.le_of_ble_eq_true rfl⟩ 36 8 rfl rfl (rfl) hl.1 rfl (Nat.le_of_ble_eq_true rfl) dX10_seen_32 (fun r3 u H locs hw hP hD hS => ?_)
      obtain ⟨hG4, hw⟩ := hw
      obtain ⟨v5, f6⟩ := u
      obtain ⟨kV_v5, kF_f6, hIv5, hk0_v5, hk1_v5, hk7_v5, hk8_v5, hk9_v5, hk10_v5, hk31_v5, hk32_v5⟩ := hw
      have hM_v5 : KV [41] v5 v := KV.tr kV_v5 hM_v rfl
      have hA_f6 : KF [23, 24, 25, 26] f6 f := KF.tr kF_f6 hA_f rfl
      have hP : va_P (dC, dI) vwCl (XW cy x0 x v5 f6) H := hP
      have hD : va_D A (XW cy x0 x v5 f6) := hD
      exact ret r3 (v5, f6) _ _ _ _ _ _ rfl ⟨(gsX_X10_seen_1_q1 c1 c2 hG4), hM_v5, hA_f6, hIv5, hk0_v5, hk1_v5, hk7_v5, hk8_v5, hk9_v5, hk10_v5, hk31_v5, hk32_v5⟩ hP hD hS dX10_seen_35 (Nat.le_refl _) (Nat.le_refl _)
    · skip
      refine lv_iconst (v := (-1)) hx hb dX10_seen_20 rfl ?_
      exact ret (-1) (v, f) _ _ _ _ _ _ rfl ⟨(gsX_X10_seen_1_q2 c1 c2), hM_v, hA_f, hIv, rfl, rfl, rfl, rfl, rfl, rfl, rfl, rfl⟩ hP hD hS dX10_seen_21 (Nat.le_refl _) (Nat.le_refl _)
set_option maxHeartbeats 4000000 in
set_option maxRecDepth 100000 in
theorem sX_X8_takeBack_1 (NF : Nat) (l : Launch) (dC : Nat → ClassId) (dI : Nat → Nat → Nat) (cy : Nat → ClassId) (x0 : Nat) (x : Nat → Nat) (p1 : Int32) (p2 : Int32) (v : Nat → Int32) (f : Nat → Nat → Int32) (hIv : XI v)  : ctI l (dC, dI) cy yX8_takeBack cX8_takeBack 3 .boolean 1 60 0 0 ((Nat → Int32) × (Nat → Nat → Int32)) [.ref (x 35), .int p1, .int p2] (XW cy x0 x v f) (fun r u => gsX_X8_takeBack_1 NF p1 p2 v f = (r, u) ∧ KV [] u.1 v ∧ KF [26] u.2 f ∧ XI u.1 ∧ u.1 0 = v 0 ∧ u.1 1 = v 1 ∧ u.1 7 = v 7 ∧ u.1 8 = v 8 ∧ u.1 9 = v 9 ∧ u.1 10 = v 10 ∧ u.1 31 = v 31 ∧ u.1 32 = v 32 ∧ ((r = 1) ∨ (r = 0))) (fun u => XW cy x0 x u.1 u.2) := by
  refine ctI_of (by decide) (Nat.le_of_ble_eq_true rfl) (fun p e s m below meth c A ls Q hx hb hml hts hown hE hP hD hA hl ret => ?_)
  have hM_v : KV [] v v := fun _ _ => rfl
  have hA_f : KF [26] f f := fun _ _ => rfl
  have hown : s.vm.findClass RX8 = some m.cls := hown
  have hS : va_S A s.heap s.heap [] := va_S.rf
  have hl : lv_has ls 3 [(0, .ref (x 35)), (1, .int p1), (2, .int p2)] := hl
  refine lv_iload_n hx hb dX8_takeBack_0 rfl (lv_at hl 1 rfl) ?_
  refine lv_if_lt (tgt := 28) hx hb dX8_takeBack_1 rfl (fun c1 => ?_) (fun c1 => ?_)
  · skip
    refine lv_iconst (v := 0) hx hb dX8_takeBack_28 rfl ?_
    exact ret 0 (v, f) _ _ _ _ _ _ rfl ⟨(gsX_X8_takeBack_1_q0 c1), hM_v, hA_f, hIv, rfl, rfl, rfl, rfl, rfl, rfl, rfl, rfl, (Or.inr rfl)⟩ hP hD hS dX8_takeBack_29 (Nat.le_refl _) (Nat.le_refl _)
  · skip
    have zc1 : ¬ (p1.toInt < 0) := zLn rfl tc_0 c1
    refine lv_iload_n hx hb dX8_takeBack_4 rfl (lv_at hl 1 rfl) ?_
    refine lv_aload_n hx hb dX8_takeBack_5 rfl (lv_at hl 0 rfl) ?_
    refine va_get (D := (dC, dI)) (ci := 8) (v := .int (v 41)) (C := RX8) (T := TX8) (N := 7) hx hb hts inB_8 hown hE.1 hP 36 rfl rfl 5 (Nat.le_of_ble_eq_true rfl) (hts _ k_472) (fun _ h9 => h9) rfl dX8_takeBack_6 ?_
    refine lv_icmp_ge (tgt := 28) hx hb dX8_takeBack_9 rfl (fun c2 => ?_) (fun c2 => ?_)
    · skip
      refine lv_iconst (v := 0) hx hb dX8_takeBack_28 rfl ?_
      exact ret 0 (v, f) _ _ _ _ _ _ rfl ⟨(gsX_X8_takeBack_1_q1 c1 c2), hM_v, hA_f, hIv, rfl, rfl, rfl, rfl, rfl, rfl, rfl, rfl, (Or.inr rfl)⟩ hP hD hS dX8_takeBack_29 (Nat.le_refl _) (Nat.le_refl _)
    · skip
      refine lv_iload_n hx hb dX8_takeBack_12 rfl (lv_at hl 1 rfl) ?_
      refine lv_bipush (v := 30) hx hb dX8_takeBack_13 rfl ?_
      refine lv_icmp_ge (tgt := 28) hx hb dX8_takeBack_15 rfl (fun c7 => ?_) (fun c7 => ?_)
      · skip
        refine lv_iconst (v := 0) hx hb dX8_takeBack_28 rfl ?_
        exact ret 0 (v, f) _ _ _ _ _ _ rfl ⟨(gsX_X8_takeBack_1_q2 c1 c2 c7), hM_v, hA_f, hIv, rfl, rfl, rfl, rfl, rfl, rfl, rfl, rfl, (Or.inr rfl)⟩ hP hD hS dX8_takeBack_29 (Nat.le_refl _) (Nat.le_refl _)
      · skip
        have zc7 : ¬ (30 ≤ p1.toInt) := zMn tc_30 rfl c7
        refine lv_aload_n hx hb dX8_takeBack_18 rfl (lv_at hl 0 rfl) ?_
        refine va_get (D := (dC, dI)) (ci := 8) (v := .ref (x 39)) (C := RX8) (T := TX8) (N := 7) hx hb hts inB_8 hown hE.1 hP 36 rfl rfl 4 (Nat.le_of_ble_eq_true rfl) (hts _ k_471) (fun _ h9 => h9) rfl dX8_takeBack_19 ?_
        refine lv_iload_n hx hb dX8_takeBack_22 rfl (lv_at hl 1 rfl) ?_
        refine ldI hx hb hE hP 40 rfl (vpI (k := 30) rfl (show 0 ≤ p1.toInt from om_14 zc1) (show p1.toInt < 30 from om_134 zc7)) rfl rfl dX8_takeBack_23 ?_
        refine lv_topi (fun t8 et8 => ?_)
        refine lv_iconst (v := (-1)) hx hb dX8_takeBack_24 rfl ?_
        refine lv_icmp_eq (tgt := 30) hx hb dX8_takeBack_25 rfl (fun c9 => ?_) (fun c9 => ?_)
        · skip
          refine lv_aload_n hx hb dX8_takeBack_30 rfl (lv_at hl 0 rfl) ?_
          refine va_get (D := (dC, dI)) (ci := 8) (v := .ref (x 39)) (C := RX8) (T := TX8) (N := 7) hx hb hts inB_8 hown hE.1 hP 36 rfl rfl 4 (Nat.le_of_ble_eq_true rfl) (hts _ k_471) (fun _ h9 => h9) rfl dX8_takeBack_31 ?_
          refine lv_iload_n hx hb dX8_takeBack_34 rfl (lv_at hl 1 rfl) ?_
          refine lv_iload_n hx hb dX8_takeBack_35 rfl (lv_at hl 2 rfl) ?_
          refine stI hx hb hE hP hD hS 40 rfl (vpI (k := 30) rfl (show 0 ≤ p1.toInt from om_14 zc1) (show p1.toInt < 30 from om_134 zc7)) rfl dX8_takeBack_36 (fun H locs hP hD hS => ?_)
          obtain ⟨f10, ef10, hP, hD⟩ : ∃ fz9, fz9 = upd2 f 26 (upd (f 26) p1.toNatClampNeg p2) ∧ va_P (dC, dI) vwCl (XW cy x0 x v fz9) H ∧ va_D A (XW cy x0 x v fz9) := ⟨_, rfl, hP, hD⟩
          have hA_f10 : KF [26] f10 f := by rw [ef10]; exact KF.up hA_f rfl
          refine lv_iconst (v := 1) hx hb dX8_takeBack_37 rfl ?_
          exact ret 1 (v, f10) _ _ _ _ _ _ rfl ⟨(gsX_X8_takeBack_1_q3 c1 c2 c7 et8 c9 ef10), hM_v, hA_f10, hIv, rfl, rfl, rfl, rfl, rfl, rfl, rfl, rfl, (Or.inl rfl)⟩ hP hD hS dX8_takeBack_38 (Nat.le_refl _) (Nat.le_refl _)
        · skip
          refine lv_iconst (v := 0) hx hb dX8_takeBack_28 rfl ?_
          exact ret 0 (v, f) _ _ _ _ _ _ rfl ⟨(gsX_X8_takeBack_1_q4 c1 c2 c7 et8 c9), hM_v, hA_f, hIv, rfl, rfl, rfl, rfl, rfl, rfl, rfl, rfl, (Or.inr rfl)⟩ hP hD hS dX8_takeBack_29 (Nat.le_refl _) (Nat.le_refl _)
set_option maxHeartbeats 4000000 in
set_option maxRecDepth 100000 in
theorem sX_X10_untell_1 (NF : Nat) (l : Launch) (dC : Nat → ClassId) (dI : Nat → Nat → Nat) (cy : Nat → ClassId) (x0 : Nat) (x : Nat → Nat) (p1 : Int32) (v : Nat → Int32) (f : Nat → Nat → Int32) (hIv : XI v)  : ctI l (dC, dI) cy yX10_untell cX10_untell 2 .boolean 2 82 0 0 ((Nat → Int32) × (Nat → Nat → Int32)) [.ref x0, .int p1] (XW cy x0 x v f) (fun r u => gsX_X10_untell_1 NF p1 v f = (r, u) ∧ KV [] u.1 v ∧ KF [26] u.2 f ∧ XI u.1 ∧ u.1 0 = v 0 ∧ u.1 1 = v 1 ∧ u.1 7 = v 7 ∧ u.1 8 = v 8 ∧ u.1 9 = v 9 ∧ u.1 10 = v 10 ∧ u.1 31 = v 31 ∧ u.1 32 = v 32 ∧ ((r = 1) ∨ (r = 0))) (fun u => XW cy x0 x u.1 u.2) := by
  refine ctI_of (by decide) (Nat.le_of_ble_eq_true rfl) (fun p e s m below meth c A ls Q hx hb hml hts hown hE hP hD hA hl ret => ?_)
  have hM_v : KV [] v v := fun _ _ => rfl
  have hA_f : KF [26] f f := fun _ _ => rfl
  have hown : s.vm.findClass RX10 = some m.cls := hown
  have hS : va_S A s.heap s.heap [] := va_S.rf
  have hl : lv_has ls 2 [(0, .ref x0), (1, .int p1)] := hl
  refine lv_aload_n hx hb dX10_untell_0 rfl (lv_at hl 0 rfl) ?_
  refine va_get (D := (dC, dI)) (ci := 10) (v := .ref (x 35)) (C := RX10) (T := TX10) (N := 10) hx hb hts inB_10 hown hE.1 hP 0 rfl rfl 8 (Nat.le_of_ble_eq_true rfl) (hts _ k_499) (fun _ h9 => h9) rfl dX10_untell_1 ?_
  refine lv_iload_n hx hb dX10_untell_4 rfl (lv_at hl 1 rfl) ?_
  refine lv_aload_n hx hb dX10_untell_5 rfl (lv_at hl 0 rfl) ?_
  refine va_get (D := (dC, dI)) (ci := 10) (v := .int (v 0)) (C := RX10) (T := TX10) (N := 10) hx hb hts inB_10 hown hE.1 hP 0 rfl rfl 9 (Nat.le_of_ble_eq_true rfl) (hts _ k_500) (fun _ h9 => h9) rfl dX10_untell_6 ?_
  have b0_v : 0 ≤ (v 0).toInt ∧ (v 0).toInt ≤ 100000 := Xb_0 hIv
  refine cbVi (n := 2) (rest := []) hx hb hml hown hts hE hP hD hS hA (sX_X8_takeBack_1 NF l dC dI cy x0 x p1 (v 0) v f hIv ) k_1234 k_1235 k_1236 k_112 k_1237 hd_yX8_takeBack ⟨Nat.le_of_ble_eq_true rfl, Nat.le_of_ble_eq_true rfl⟩ 36 8 rfl rfl (rfl) hl.1 rfl (Nat.le_of_ble_eq_true rfl) dX10_untell_9 (fun r1 u H locs hw hP hD hS => ?_)
  obtain ⟨hG2, hw⟩ := hw
  obtain ⟨v3, f4⟩ := u
  obtain ⟨kV_v3, kF_f4, hIv3, hk0_v3, hk1_v3, hk7_v3, hk8_v3, hk9_v3, hk10_v3, hk31_v3, hk32_v3, hw⟩ := hw
  have hM_v3 : KV [] v3 v := KV.tr kV_v3 hM_v rfl
  have hA_f4 : KF [26] f4 f := KF.tr kF_f4 hA_f rfl
  have hP : va_P (dC, dI) vwCl (XW cy x0 x v3 f4) H := hP
  have hD : va_D A (XW cy x0 x v3 f4) := hD
  have hq0_v3 : v3 0 = (v 0) := hk0_v3
  have hq1_v3 : v3 1 = (v 1) := hk1_v3
  have hq7_v3 : v3 7 = (v 7) := hk7_v3
  have hq8_v3 : v3 8 = (v 8) := hk8_v3
  have hq9_v3 : v3 9 = (v 9) := hk9_v3
  have hq10_v3 : v3 10 = (v 10) := hk10_v3
  have hq31_v3 : v3 31 = (v 31) := hk31_v3
  have hq32_v3 : v3 32 = (v 32) := hk32_v3
  rcases hw with ⟨g5⟩ | ⟨g5⟩
  · skip
    subst g5
    exact ret 1 (v3, f4) _ _ _ _ _ _ rfl ⟨(gsX_X10_untell_1_q0 hG2), hM_v3, hA_f4, hIv3, hk0_v3, hk1_v3, hk7_v3, hk8_v3, hk9_v3, hk10_v3, hk31_v3, hk32_v3, (Or.inl rfl)⟩ hP hD hS dX10_untell_12 (Nat.le_refl _) (Nat.le_refl _)
  · skip
    subst g5
    exact ret 0 (v3, f4) _ _ _ _ _ _ rfl ⟨(gsX_X10_untell_1_q1 hG2), hM_v3, hA_f4, hIv3, hk0_v3, hk1_v3, hk7_v3, hk8_v3, hk9_v3, hk10_v3, hk31_v3, hk32_v3, (Or.inr rfl)⟩ hP hD hS dX10_untell_12 (Nat.le_refl _) (Nat.le_refl _)
set_option maxHeartbeats 4000000 in
set_option maxRecDepth 100000 in
theorem sX_X10_later_1 (NF : Nat) (l : Launch) (dC : Nat → ClassId) (dI : Nat → Nat → Nat) (cy : Nat → ClassId) (x0 : Nat) (x : Nat → Nat) (p1 : Int32) (v : Nat → Int32) (f : Nat → Nat → Int32) (hIv : XI v)  : ctI l (dC, dI) cy yX10_later cX10_later 2 .int 1 60 0 0 ((Nat → Int32) × (Nat → Nat → Int32)) [.ref x0, .int p1] (XW cy x0 x v f) (fun r u => gsX_X10_later_1 NF p1 v f = (r, u) ∧ KV [0] u.1 v ∧ KF [] u.2 f ∧ XI u.1 ∧ u.1 1 = v 1 ∧ u.1 7 = v 7 ∧ u.1 8 = v 8 ∧ u.1 9 = v 9 ∧ u.1 10 = v 10 ∧ u.1 31 = v 31 ∧ u.1 32 = v 32) (fun u => XW cy x0 x u.1 u.2) := by
  refine ctI_of (by decide) (Nat.le_of_ble_eq_true rfl) (fun p e s m below meth c A ls Q hx hb hml hts hown hE hP hD hA hl ret => ?_)
  have hM_v : KV [0] v v := fun _ _ => rfl
  have hA_f : KF [] f f := fun _ _ => rfl
  have hown : s.vm.findClass RX10 = some m.cls := hown
  have hS : va_S A s.heap s.heap [] := va_S.rf
  have hl : lv_has ls 2 [(0, .ref x0), (1, .int p1)] := hl
  refine lv_iload_n hx hb dX10_later_0 rfl (lv_at hl 1 rfl) ?_
  refine lv_if_lt (tgt := 23) hx hb dX10_later_1 rfl (fun c1 => ?_) (fun c1 => ?_)
  · skip
    refine lv_iconst (v := (-1)) hx hb dX10_later_23 rfl ?_
    exact ret (-1) (v, f) _ _ _ _ _ _ rfl ⟨(gsX_X10_later_1_q0 c1), hM_v, hA_f, hIv, rfl, rfl, rfl, rfl, rfl, rfl, rfl⟩ hP hD hS dX10_later_24 (Nat.le_refl _) (Nat.le_refl _)
  · skip
    have zc1 : ¬ (p1.toInt < 0) := zLn rfl tc_0 c1
    refine lv_iload_n hx hb dX10_later_4 rfl (lv_at hl 1 rfl) ?_
    refine lv_sipush (v := 1000) hx hb dX10_later_5 rfl ?_
    refine lv_icmp_gt (tgt := 23) hx hb dX10_later_8 rfl (fun c2 => ?_) (fun c2 => ?_)
    · skip
      refine lv_iconst (v := (-1)) hx hb dX10_later_23 rfl ?_
      exact ret (-1) (v, f) _ _ _ _ _ _ rfl ⟨(gsX_X10_later_1_q1 c1 c2), hM_v, hA_f, hIv, rfl, rfl, rfl, rfl, rfl, rfl, rfl⟩ hP hD hS dX10_later_24 (Nat.le_refl _) (Nat.le_refl _)
    · skip
      have zc2 : ¬ (1000 < p1.toInt) := zLn tc_1000 rfl c2
      refine lv_aload_n hx hb dX10_later_11 rfl (lv_at hl 0 rfl) ?_
      refine va_get (D := (dC, dI)) (ci := 10) (v := .int (v 0)) (C := RX10) (T := TX10) (N := 10) hx hb hts inB_10 hown hE.1 hP 0 rfl rfl 9 (Nat.le_of_ble_eq_true rfl) (hts _ k_500) (fun _ h9 => h9) rfl dX10_later_12 ?_
      have b0_v : 0 ≤ (v 0).toInt ∧ (v 0).toInt ≤ 100000 := Xb_0 hIv
      refine lv_iload_n hx hb dX10_later_15 rfl (lv_at hl 1 rfl) ?_
      refine lv_iadd hx hb dX10_later_16 ?_
      refine lv_topi (fun t3 et3 => ?_)
      have zt3 : t3.toInt = (v 0).toInt + p1.toInt := (congrArg Int32.toInt et3).trans (add_i rfl rfl (om_135 zc1 b0_v) (om_136 zc2 b0_v))
      refine lv_ldcw (v := 100000) hx hb hown (hts _ k_1242) dX10_later_17 ?_
      refine lv_icmp_le (tgt := 25) hx hb dX10_later_20 rfl (fun c6 => ?_) (fun c6 => ?_)
      · skip
        have zc6 : t3.toInt ≤ 100000 := zMp rfl tc_100000 c6
        refine lv_aload_n hx hb dX10_later_25 rfl (lv_at hl 0 rfl) ?_
        refine lv_dup hx hb dX10_later_26 rfl ?_
        refine va_get (D := (dC, dI)) (ci := 10) (v := .int (v 0)) (C := RX10) (T := TX10) (N := 10) hx hb hts inB_10 hown hE.1 hP 0 rfl rfl 9 (Nat.le_of_ble_eq_true rfl) (hts _ k_500) (fun _ h9 => h9) rfl dX10_later_27 ?_
        refine lv_iload_n hx hb dX10_later_30 rfl (lv_at hl 1 rfl) ?_
        refine lv_iadd hx hb dX10_later_31 ?_
        refine tI (y := t3) et3.symm ?_
        refine va_put (D := (dC, dI)) (ci := 10) (v := .int t3) (ty := tyX10 9) (C := RX10) (T := TX10) (N := 10) hx hb hts inB_10 tyX10 tyX10_ok nmX10 hown hE.1 hP hD hS 0 rfl rfl 9 (Nat.le_of_ble_eq_true rfl) (hts _ k_500) (fun _ h9 => h9) rfl (tyX10_ok 9 (Nat.le_of_ble_eq_true rfl)) rfl rfl (Nat.le_of_ble_eq_true rfl) dX10_later_32 (fun H locs hP hD hS => ?_)
        have hP : va_P (dC, dI) vwCl (XW cy x0 x (upd v 0 t3) f) H := hP
        have hD : va_D A (XW cy x0 x (upd v 0 t3) f) := hD
        refine lv_aload_n hx hb dX10_later_35 rfl (lv_at hl 0 rfl) ?_
        refine va_get (D := (dC, dI)) (ci := 10) (v := .int t3) (C := RX10) (T := TX10) (N := 10) hx hb hts inB_10 hown hE.1 hP 0 rfl rfl 9 (Nat.le_of_ble_eq_true rfl) (hts _ k_500) (fun _ h9 => h9) rfl dX10_later_36 ?_
        exact ret t3 ((upd v 0 t3), f) _ _ _ _ _ _ rfl ⟨(gsX_X10_later_1_q2 c1 c2 et3 c6), (KV.up (j := 0) (x := t3) hM_v rfl), hA_f, (Xu_0 (x := t3) hIv (show (0 : Int) ≤ t3.toInt from om_137 zc1 b0_v zt3) (show t3.toInt ≤ (100000 : Int) from om_138 zc6)), rfl, rfl, rfl, rfl, rfl, rfl, rfl⟩ hP hD hS dX10_later_39 (Nat.le_refl _) (Nat.le_refl _)
      · skip
        refine lv_iconst (v := (-1)) hx hb dX10_later_23 rfl ?_
        exact ret (-1) (v, f) _ _ _ _ _ _ rfl ⟨(gsX_X10_later_1_q3 c1 c2 et3 c6), hM_v, hA_f, hIv, rfl, rfl, rfl, rfl, rfl, rfl, rfl⟩ hP hD hS dX10_later_24 (Nat.le_refl _) (Nat.le_refl _)
set_option maxHeartbeats 4000000 in
set_option maxRecDepth 100000 in
theorem sX_X10_commonDivisor_1 (NF : Nat) (l : Launch) (dC : Nat → ClassId) (dI : Nat → Nat → Nat) (cy : Nat → ClassId) (x0 : Nat) (x : Nat → Nat) (p0 : Int32) (p1 : Int32) (v : Nat → Int32) (f : Nat → Nat → Int32) (hIv : XI v)  : ctI l (dC, dI) cy yX10_commonDivisor cX10_commonDivisor 6 .int 1 60 0 0 Unit [.int p0, .int p1] (XW cy x0 x v f) (fun r u => gsX_X10_commonDivisor_1 NF p0 p1 v f = r) (fun u => XW cy x0 x v f) := by
  refine ctI_of (by decide) (Nat.le_of_ble_eq_true rfl) (fun p e s m below meth c A ls Q hx hb hml hts hown hE hP hD hA hl ret => ?_)
  have hown : s.vm.findClass RX10 = some m.cls := hown
  have hS : va_S A s.heap s.heap [] := va_S.rf
  have hl : lv_has ls 6 [(0, .int p0), (1, .int p1)] := hl
  refine lv_iload_n hx hb dX10_commonDivisor_0 rfl (lv_at hl 0 rfl) ?_
  refine lv_istore_n (lv' := [(2, .int p0), (0, .int p0), (1, .int p1)]) hx hb dX10_commonDivisor_1 rfl hl (Nat.le_of_ble_eq_true rfl) rfl (fun ls hl => ?_)
  refine lv_iload_n hx hb dX10_commonDivisor_2 rfl (lv_at hl 2 rfl) ?_
  refine lv_istore_n (lv' := [(3, .int p1), (2, .int p0), (0, .int p0), (1, .int p1)]) hx hb dX10_commonDivisor_3 rfl hl (Nat.le_of_ble_eq_true rfl) rfl (fun ls hl => ?_)
  refine lv_iconst (v := 0) hx hb dX10_commonDivisor_4 rfl ?_
  refine lv_istore (lv' := [(4, .int 0), (3, .int p1), (2, .int p0), (0, .int p0), (1, .int p1)]) hx hb dX10_commonDivisor_5 hl (Nat.le_of_ble_eq_true rfl) rfl (fun ls hl => ?_)
  have lp1 : ∀ (n1 : Nat) (l2_1 : Int32) (l3_1 : Int32) (l4_1 : Int32), gsX_X10_commonDivisor_1_L1 NF n1 l2_1 l3_1 l4_1 = (gsX_X10_commonDivisor_1 NF p0 p1 v f) → ((0 : Int) ≤ l4_1.toInt ∧ l4_1.toInt ≤ 2147483647) → (2147483647 - l4_1.toInt).toNat < n1 → ∀ (H : Heap) (locs : List Loc) (ls : Array Slot), va_P (dC, dI) vwCl (XW cy x0 x v f) H → va_D A (XW cy x0 x v f) → va_S A s.heap H locs → lv_has ls 6 [(4, .int l4_1), (3, .int l3_1), (2, .int l2_1), (0, .int p0), (1, .int p1)] → W p l e { frames := 1, cells := 0, slots := 0, locals := 60 } s m ([.int p0, .int p1] : List Value).toArray below meth c H locs 0 0 Q (F0 m 7 ls []) := by
    intro n1
    induction n1 with
    | zero => intro l2_1 l3_1 l4_1 hT1 hr4_1 hm; exact absurd hm (Nat.not_lt_zero _)
    | succ n1 ih1 =>
      intro l2_1 l3_1 l4_1 hT1 hr4_1 hm1 H locs ls hP hD hS hl
      refine lv_iload hx hb dX10_commonDivisor_7 (lv_at hl 0 rfl) ?_
      refine lv_bipush (v := 100) hx hb dX10_commonDivisor_9 rfl ?_
      refine lv_icmp_ge (tgt := 34) hx hb dX10_commonDivisor_11 rfl (fun c2 => ?_) (fun c2 => ?_)
      · skip
        refine lv_iload_n hx hb dX10_commonDivisor_34 rfl (lv_at hl 2 rfl) ?_
        exact ret l2_1 () _ _ _ _ _ _ rfl (hT1.symm.trans (gsX_X10_commonDivisor_1_q0 c2)) hP hD hS dX10_commonDivisor_35 (Nat.le_refl _) (Nat.le_refl _)
      · skip
        have zc2 : ¬ (100 ≤ l4_1.toInt) := zMn tc_100 rfl c2
        refine lv_iload_n hx hb dX10_commonDivisor_14 rfl (lv_at hl 1 rfl) ?_
        refine lv_if_eq (tgt := 34) hx hb dX10_commonDivisor_15 rfl (fun c3 => ?_) (fun c3 => ?_)
        · skip
          refine lv_iload_n hx hb dX10_commonDivisor_34 rfl (lv_at hl 2 rfl) ?_
          exact ret l2_1 () _ _ _ _ _ _ rfl (hT1.symm.trans (gsX_X10_commonDivisor_1_q1 c2 c3)) hP hD hS dX10_commonDivisor_35 (Nat.le_refl _) (Nat.le_refl _)
        · skip
          have zc3 : ¬ (l3_1.toInt = 0) := zEn rfl tc_0 c3
          refine lv_iload_n hx hb dX10_commonDivisor_18 rfl (lv_at hl 2 rfl) ?_
          refine lv_iload_n hx hb dX10_commonDivisor_19 rfl (lv_at hl 1 rfl) ?_
          refine lv_irem hx hb dX10_commonDivisor_20 (ne0 (show ¬ l3_1.toInt = 0 from om_139 zc3)) ?_
          refine lv_topi (fun t4 et4 => ?_)
          refine lv_istore (lv' := [(5, .int t4), (4, .int l4_1), (3, .int l3_1), (2, .int l2_1), (0, .int p0), (1, .int p1)]) hx hb dX10_commonDivisor_21 hl (Nat.le_of_ble_eq_true rfl) rfl (fun ls hl => ?_)
          refine lv_iload_n hx hb dX10_commonDivisor_23 rfl (lv_at hl 2 rfl) ?_
          refine lv_istore_n (lv' := [(2, .int l3_1), (5, .int t4), (4, .int l4_1), (3, .int l3_1), (0, .int p0), (1, .int p1)]) hx hb dX10_commonDivisor_24 rfl hl (Nat.le_of_ble_eq_true rfl) rfl (fun ls hl => ?_)
          refine lv_iload hx hb dX10_commonDivisor_25 (lv_at hl 1 rfl) ?_
          refine lv_istore_n (lv' := [(3, .int t4), (2, .int l3_1), (5, .int t4), (4, .int l4_1), (0, .int p0), (1, .int p1)]) hx hb dX10_commonDivisor_27 rfl hl (Nat.le_of_ble_eq_true rfl) rfl (fun ls hl => ?_)
          obtain ⟨t5, et5⟩ : ∃ y : Int32, y = l4_1 + 1 := ⟨_, rfl⟩
          have zt5 : t5.toInt = l4_1.toInt + 1 := (congrArg Int32.toInt et5).trans (add_i rfl tc_1 (om_41 hr4_1) (om_140 zc2))
          refine lv_iinc (v := t5) (lv' := [(4, .int t5), (3, .int t4), (2, .int l3_1), (5, .int t4), (0, .int p0), (1, .int p1)]) hx hb dX10_commonDivisor_28 hl (k := 3) rfl et5.symm (Nat.le_of_ble_eq_true rfl) rfl (fun ls hl => ?_)
          refine lv_goto (tgt := 7) hx hb dX10_commonDivisor_31 rfl ?_
          have rg7 := fb_rng t5
          exact ih1 l3_1 t4 t5 ((gsX_X10_commonDivisor_1_q2 c2 c3 et4 et5).symm.trans hT1) ⟨show (0 : Int) ≤ t5.toInt from om_43 hr4_1 zt5, show t5.toInt ≤ (2147483647 : Int) from om_44 rg7⟩ (show (2147483647 - t5.toInt).toNat < n1 from om_33 hm1 zt5 rg7) _ _ _ hP hD hS (lv_sub hl [0, 1, 2, 4, 5] rfl)
  exact lp1 (4294967296 + NF) p0 p1 0 gsX_X10_commonDivisor_1_q3.symm ⟨by decide, by decide⟩ (show (2147483647 - (0 : Int32).toInt).toNat < 4294967296 + NF from om_38 tc_0) _ _ _ hP hD hS (lv_sub hl [0, 1, 2, 3, 4] rfl)
set_option maxHeartbeats 4000000 in
set_option maxRecDepth 100000 in
theorem sX_X10_odds_1 (NF : Nat) (l : Launch) (dC : Nat → ClassId) (dI : Nat → Nat → Nat) (cy : Nat → ClassId) (x0 : Nat) (x : Nat → Nat) (p1 : Int32) (p2 : Int32) (v : Nat → Int32) (f : Nat → Nat → Int32) (hIv : XI v)  : ctI l (dC, dI) cy yX10_odds cX10_odds 6 .int 2 85 0 0 Unit [.ref x0, .int p1, .int p2] (XW cy x0 x v f) (fun r u => gsX_X10_odds_1 NF p1 p2 v f = r) (fun u => XW cy x0 x v f) := by
  refine ctI_of (by decide) (Nat.le_of_ble_eq_true rfl) (fun p e s m below meth c A ls Q hx hb hml hts hown hE hP hD hA hl ret => ?_)
  have hown : s.vm.findClass RX10 = some m.cls := hown
  have hS : va_S A s.heap s.heap [] := va_S.rf
  have hl : lv_has ls 6 [(0, .ref x0), (1, .int p1), (2, .int p2)] := hl
  refine lv_iload_n hx hb dX10_odds_0 rfl (lv_at hl 1 rfl) ?_
  refine lv_if_lt (tgt := 18) hx hb dX10_odds_1 rfl (fun c1 => ?_) (fun c1 => ?_)
  · skip
    refine lv_iconst (v := (-1)) hx hb dX10_odds_18 rfl ?_
    exact ret (-1) () _ _ _ _ _ _ rfl (gsX_X10_odds_1_q0 c1) hP hD hS dX10_odds_19 (Nat.le_refl _) (Nat.le_refl _)
  · skip
    refine lv_iload_n hx hb dX10_odds_4 rfl (lv_at hl 1 rfl) ?_
    refine lv_iconst (v := 4) hx hb dX10_odds_5 rfl ?_
    refine lv_icmp_gt (tgt := 18) hx hb dX10_odds_6 rfl (fun c2 => ?_) (fun c2 => ?_)
    · skip
      refine lv_iconst (v := (-1)) hx hb dX10_odds_18 rfl ?_
      exact ret (-1) () _ _ _ _ _ _ rfl (gsX_X10_odds_1_q1 c1 c2) hP hD hS dX10_odds_19 (Nat.le_refl _) (Nat.le_refl _)
    · skip
      have zc2 : ¬ (4 < p1.toInt) := zLn tc_4 rfl c2
      refine lv_iload_n hx hb dX10_odds_9 rfl (lv_at hl 2 rfl) ?_
      refine lv_if_lt (tgt := 18) hx hb dX10_odds_10 rfl (fun c3 => ?_) (fun c3 => ?_)
      · skip
        refine lv_iconst (v := (-1)) hx hb dX10_odds_18 rfl ?_
        exact ret (-1) () _ _ _ _ _ _ rfl (gsX_X10_odds_1_q2 c1 c2 c3) hP hD hS dX10_odds_19 (Nat.le_refl _) (Nat.le_refl _)
      · skip
        refine lv_iload_n hx hb dX10_odds_13 rfl (lv_at hl 2 rfl) ?_
        refine lv_iconst (v := 1) hx hb dX10_odds_14 rfl ?_
        refine lv_icmp_le (tgt := 20) hx hb dX10_odds_15 rfl (fun c4 => ?_) (fun c4 => ?_)
        · skip
          refine lv_iconst (v := 1) hx hb dX10_odds_20 rfl ?_
          refine lv_istore_n (lv' := [(3, .int 1), (0, .ref x0), (1, .int p1), (2, .int p2)]) hx hb dX10_odds_21 rfl hl (Nat.le_of_ble_eq_true rfl) rfl (fun ls hl => ?_)
          refine lv_iconst (v := 1) hx hb dX10_odds_22 rfl ?_
          refine lv_istore (lv' := [(4, .int 1), (3, .int 1), (0, .ref x0), (1, .int p1), (2, .int p2)]) hx hb dX10_odds_23 hl (Nat.le_of_ble_eq_true rfl) rfl (fun ls hl => ?_)
          refine lv_iconst (v := 0) hx hb dX10_odds_25 rfl ?_
          refine lv_istore (lv' := [(5, .int 0), (4, .int 1), (3, .int 1), (0, .ref x0), (1, .int p1), (2, .int p2)]) hx hb dX10_odds_26 hl (Nat.le_of_ble_eq_true rfl) rfl (fun ls hl => ?_)
          have lp5 : ∀ (n5 : Nat) (l3_5 : Int32) (l4_5 : Int32) (l5_5 : Int32), gsX_X10_odds_1_L5 NF p1 p2 v f n5 l3_5 l4_5 l5_5 = (gsX_X10_odds_1 NF p1 p2 v f) → ((0 : Int) ≤ l5_5.toInt ∧ l5_5.toInt ≤ 2147483647) → (2147483647 - l5_5.toInt).toNat < n5 → ∀ (H : Heap) (locs : List Loc) (ls : Array Slot), va_P (dC, dI) vwCl (XW cy x0 x v f) H → va_D A (XW cy x0 x v f) → va_S A s.heap H locs → lv_has ls 6 [(5, .int l5_5), (4, .int l4_5), (3, .int l3_5), (0, .ref x0), (1, .int p1), (2, .int p2)] → W p l e { frames := 2, cells := 0, slots := 0, locals := 85 } s m ([.ref x0, .int p1, .int p2] : List Value).toArray below meth c H locs 0 0 Q (F0 m 28 ls []) := by
            intro n5
            induction n5 with
            | zero => intro l3_5 l4_5 l5_5 hT5 hr5_5 hm; exact absurd hm (Nat.not_lt_zero _)
            | succ n5 ih5 =>
              intro l3_5 l4_5 l5_5 hT5 hr5_5 hm5 H locs ls hP hD hS hl
              refine lv_iload hx hb dX10_odds_28 (lv_at hl 0 rfl) ?_
              refine lv_iload_n hx hb dX10_odds_30 rfl (lv_at hl 4 rfl) ?_
              refine lv_icmp_ge (tgt := 60) hx hb dX10_odds_31 rfl (fun c6 => ?_) (fun c6 => ?_)
              · skip
                refine lv_iload hx hb dX10_odds_60 (lv_at hl 1 rfl) ?_
                refine lv_iload_n hx hb dX10_odds_62 rfl (lv_at hl 2 rfl) ?_
                refine cbSi (n := 2) (rest := []) hx hb hml hown hts hE hP hD hS hA (sX_X10_commonDivisor_1 NF l dC dI cy x0 x l4_5 l3_5 v f hIv ) k_1211 k_1212 k_101 k_1213 he_yX10_commonDivisor ⟨Nat.le_of_ble_eq_true rfl, Nat.le_of_ble_eq_true rfl⟩ (rfl) hl.1 rfl (Nat.le_of_ble_eq_true rfl) dX10_odds_63 (fun r9 u H locs hw hP hD hS => ?_)
                have hG10 := hw
                refine lv_istore (lv' := [(5, .int r9), (4, .int l4_5), (3, .int l3_5), (0, .ref x0), (1, .int p1), (2, .int p2)]) hx hb dX10_odds_66 hl (Nat.le_of_ble_eq_true rfl) rfl (fun ls hl => ?_)
                refine lv_iload hx hb dX10_odds_68 (lv_at hl 0 rfl) ?_
                refine lv_iconst (v := 1) hx hb dX10_odds_70 rfl ?_
                refine lv_icmp_ge (tgt := 76) hx hb dX10_odds_71 rfl (fun c11 => ?_) (fun c11 => ?_)
                · skip
                  have zc11 : 1 ≤ r9.toInt := zMp tc_1 rfl c11
                  refine lv_iload_n hx hb dX10_odds_76 rfl (lv_at hl 5 rfl) ?_
                  refine lv_if_ne (tgt := 84) hx hb dX10_odds_77 rfl (fun c12 => ?_) (fun c12 => ?_)
                  · skip
                    refine lv_iload hx hb dX10_odds_84 (lv_at hl 1 rfl) ?_
                    refine lv_iload hx hb dX10_odds_86 (lv_at hl 0 rfl) ?_
                    refine lv_idiv hx hb dX10_odds_88 (ne0 (show ¬ r9.toInt = 0 from om_141 zc11)) ?_
                    refine lv_topi (fun t13 et13 => ?_)
                    exact ret t13 () _ _ _ _ _ _ rfl (hT5.symm.trans (gsX_X10_odds_1_q3 c6 hG10.symm c11 c12 et13)) hP hD hS dX10_odds_89 (Nat.le_refl _) (Nat.le_refl _)
                  · skip
                    refine lv_iload_n hx hb dX10_odds_80 rfl (lv_at hl 2 rfl) ?_
                    refine lv_goto (tgt := 86) hx hb dX10_odds_81 rfl ?_
                    refine lv_iload hx hb dX10_odds_86 (lv_at hl 0 rfl) ?_
                    refine lv_idiv hx hb dX10_odds_88 (ne0 (show ¬ r9.toInt = 0 from om_141 zc11)) ?_
                    refine lv_topi (fun t14 et14 => ?_)
                    exact ret t14 () _ _ _ _ _ _ rfl (hT5.symm.trans (gsX_X10_odds_1_q4 c6 hG10.symm c11 c12 et14)) hP hD hS dX10_odds_89 (Nat.le_refl _) (Nat.le_refl _)
                · skip
                  refine lv_iconst (v := (-1)) hx hb dX10_odds_74 rfl ?_
                  exact ret (-1) () _ _ _ _ _ _ rfl (hT5.symm.trans (gsX_X10_odds_1_q5 c6 hG10.symm c11)) hP hD hS dX10_odds_75 (Nat.le_refl _) (Nat.le_refl _)
              · skip
                have zc6 : ¬ (p1.toInt ≤ l5_5.toInt) := zMn rfl rfl c6
                refine lv_iload_n hx hb dX10_odds_34 rfl (lv_at hl 2 rfl) ?_
                refine lv_bipush (v := 100) hx hb dX10_odds_35 rfl ?_
                refine lv_aload_n hx hb dX10_odds_37 rfl (lv_at hl 3 rfl) ?_
                refine va_get (D := (dC, dI)) (ci := 10) (v := .ref (x 26)) (C := RX10) (T := TX10) (N := 10) hx hb hts inB_10 hown hE.1 hP 0 rfl rfl 2 (Nat.le_of_ble_eq_true rfl) (hts _ k_493) (fun _ h9 => h9) rfl dX10_odds_38 ?_
                refine va_getN (D := (dC, dI)) (ci := 7) (v := .int (v 36)) (C := RX7) (T := TX7) (N := 10) hx hb hts inB_7 hown hE.1 hP 27 rfl rfl 8 (Nat.le_of_ble_eq_true rfl) (va_Nw.use rfl (hE.2 _ k_241)) (fun _ h9 => h9) rfl dX10_odds_41 ?_
                refine lv_isub hx hb dX10_odds_44 ?_
                refine lv_topi (fun t17 et17 => ?_)
                refine lv_imul hx hb dX10_odds_45 ?_
                refine lv_topi (fun t18 et18 => ?_)
                refine lv_istore_n (lv' := [(3, .int t18), (5, .int l5_5), (4, .int l4_5), (0, .ref x0), (1, .int p1), (2, .int p2)]) hx hb dX10_odds_46 rfl hl (Nat.le_of_ble_eq_true rfl) rfl (fun ls hl => ?_)
                refine lv_iload hx hb dX10_odds_47 (lv_at hl 2 rfl) ?_
                refine lv_bipush (v := 100) hx hb dX10_odds_49 rfl ?_
                refine lv_imul hx hb dX10_odds_51 ?_
                refine lv_topi (fun t19 et19 => ?_)
                refine lv_istore (lv' := [(4, .int t19), (3, .int t18), (5, .int l5_5), (0, .ref x0), (1, .int p1), (2, .int p2)]) hx hb dX10_odds_52 hl (Nat.le_of_ble_eq_true rfl) rfl (fun ls hl => ?_)
                obtain ⟨t20, et20⟩ : ∃ y : Int32, y = l5_5 + 1 := ⟨_, rfl⟩
                have zt20 : t20.toInt = l5_5.toInt + 1 := (congrArg Int32.toInt et20).trans (add_i rfl tc_1 (om_41 hr5_5) (om_142 zc2 zc6))
                refine lv_iinc (v := t20) (lv' := [(5, .int t20), (4, .int t19), (3, .int t18), (0, .ref x0), (1, .int p1), (2, .int p2)]) hx hb dX10_odds_54 hl (k := 2) rfl et20.symm (Nat.le_of_ble_eq_true rfl) rfl (fun ls hl => ?_)
                refine lv_goto (tgt := 28) hx hb dX10_odds_57 rfl ?_
                have rg21 := fb_rng t20
                exact ih5 t18 t19 t20 ((gsX_X10_odds_1_q6 c6 et17 et18 et19 et20).symm.trans hT5) ⟨show (0 : Int) ≤ t20.toInt from om_43 hr5_5 zt20, show t20.toInt ≤ (2147483647 : Int) from om_44 rg21⟩ (show (2147483647 - t20.toInt).toNat < n5 from om_33 hm5 zt20 rg21) _ _ _ hP hD hS (lv_sub hl [0, 1, 2, 3, 4, 5] rfl)
          exact lp5 (4294967296 + NF) 1 1 0 (gsX_X10_odds_1_q7 c1 c2 c3 c4).symm ⟨by decide, by decide⟩ (show (2147483647 - (0 : Int32).toInt).toNat < 4294967296 + NF from om_38 tc_0) _ _ _ hP hD hS (lv_sub hl [0, 1, 2, 3, 4, 5] rfl)
        · skip
          refine lv_iconst (v := (-1)) hx hb dX10_odds_18 rfl ?_
          exact ret (-1) () _ _ _ _ _ _ rfl (gsX_X10_odds_1_q8 c1 c2 c3 c4) hP hD hS dX10_odds_19 (Nat.le_refl _) (Nat.le_refl _)
set_option maxHeartbeats 4000000 in
set_option maxRecDepth 100000 in
theorem sX_X1_manWide_1 (NF : Nat) (l : Launch) (dC : Nat → ClassId) (dI : Nat → Nat → Nat) (cy : Nat → ClassId) (x0 : Nat) (x : Nat → Nat) (p1 : Int32) (v : Nat → Int32) (f : Nat → Nat → Int32) (hIv : XI v)  : ctI l (dC, dI) cy yX1_manWide cX1_manWide 2 .int 2 81 0 0 Unit [.ref (x 21), .int p1] (XW cy x0 x v f) (fun r u => gsX_X1_manWide_1 NF p1 v f = r) (fun u => XW cy x0 x v f) := by
  refine ctI_of (by decide) (Nat.le_of_ble_eq_true rfl) (fun p e s m below meth c A ls Q hx hb hml hts hown hE hP hD hA hl ret => ?_)
  have hown : s.vm.findClass RX1 = some m.cls := hown
  have hS : va_S A s.heap s.heap [] := va_S.rf
  have hl : lv_has ls 2 [(0, .ref (x 21)), (1, .int p1)] := hl
  refine lv_aload_n hx hb dX1_manWide_0 rfl (lv_at hl 0 rfl) ?_
  refine va_get (D := (dC, dI)) (ci := 1) (v := .ref (x 26)) (C := RX1) (T := TX1) (N := 2) hx hb hts inB_1 hown hE.1 hP 22 rfl rfl 0 (Nat.le_of_ble_eq_true rfl) (hts _ k_318) (fun _ h9 => h9) rfl dX1_manWide_1 ?_
  refine lv_iload_n hx hb dX1_manWide_4 rfl (lv_at hl 1 rfl) ?_
  refine cbVi (n := 1) (rest := []) hx hb hml hown hts hE hP hD hS hA (sX_X7_hasMan_1 NF l dC dI cy x0 x p1 v f hIv ) k_808 k_307 k_308 k_104 k_309 hd_yX7_hasMan ⟨Nat.le_of_ble_eq_true rfl, Nat.le_of_ble_eq_true rfl⟩ 27 7 rfl rfl (rfl) hl.1 rfl (Nat.le_of_ble_eq_true rfl) dX1_manWide_5 (fun r1 u H locs hw hP hD hS => ?_)
  obtain ⟨hG2, hw⟩ := hw
  rcases hw with ⟨g3, g3_0, g3_1, g3_2⟩ | ⟨g3⟩
  · skip
    subst g3
    refine lv_if_eq (tgt := 20) hx hb dX1_manWide_8 rfl (fun c0 => absurd c0 (by decide)) (fun _ => ?_)
    refine lv_aload_n hx hb dX1_manWide_11 rfl (lv_at hl 0 rfl) ?_
    refine va_get (D := (dC, dI)) (ci := 1) (v := .ref (x 22)) (C := RX1) (T := TX1) (N := 2) hx hb hts inB_1 hown hE.1 hP 22 rfl rfl 1 (Nat.le_of_ble_eq_true rfl) (hts _ k_319) (fun _ h9 => h9) rfl dX1_manWide_12 ?_
    refine lv_iload_n hx hb dX1_manWide_15 rfl (lv_at hl 1 rfl) ?_
    refine ldI hx hb hE hP 23 rfl (vpI (k := 44) rfl (show 0 ≤ p1.toInt from om_62 g3_0) (show p1.toInt < 44 from om_143 g3_2)) rfl rfl dX1_manWide_16 ?_
    refine lv_topi (fun t4 et4 => ?_)
    refine lv_goto (tgt := 21) hx hb dX1_manWide_17 rfl ?_
    exact ret t4 () _ _ _ _ _ _ rfl (gsX_X1_manWide_1_q0 hG2 et4) hP hD hS dX1_manWide_21 (Nat.le_refl _) (Nat.le_refl _)
  · skip
    subst g3
    refine lv_if_eq (tgt := 20) hx hb dX1_manWide_8 rfl (fun _ => ?_) (fun c0 => absurd (by decide) c0)
    refine lv_iconst (v := 0) hx hb dX1_manWide_20 rfl ?_
    exact ret 0 () _ _ _ _ _ _ rfl (gsX_X1_manWide_1_q1 hG2) hP hD hS dX1_manWide_21 (Nat.le_refl _) (Nat.le_refl _)
set_option maxHeartbeats 4000000 in
set_option maxRecDepth 100000 in
theorem sX_X1_part_1 (NF : Nat) (l : Launch) (dC : Nat → ClassId) (dI : Nat → Nat → Nat) (cy : Nat → ClassId) (x0 : Nat) (x : Nat → Nat) (p1 : Int32) (p2 : Int32) (v : Nat → Int32) (f : Nat → Nat → Int32) (hIv : XI v)  : ctI l (dC, dI) cy yX1_part cX1_part 4 .int 2 81 0 0 Unit [.ref (x 21), .int p1, .int p2] (XW cy x0 x v f) (fun r u => gsX_X1_part_1 NF p1 p2 v f = r) (fun u => XW cy x0 x v f) := by
  refine ctI_of (by decide) (Nat.le_of_ble_eq_true rfl) (fun p e s m below meth c A ls Q hx hb hml hts hown hE hP hD hA hl ret => ?_)
  have hown : s.vm.findClass RX1 = some m.cls := hown
  have hS : va_S A s.heap s.heap [] := va_S.rf
  have hl : lv_has ls 4 [(0, .ref (x 21)), (1, .int p1), (2, .int p2)] := hl
  refine lv_aload_n hx hb dX1_part_0 rfl (lv_at hl 0 rfl) ?_
  refine va_get (D := (dC, dI)) (ci := 1) (v := .ref (x 26)) (C := RX1) (T := TX1) (N := 2) hx hb hts inB_1 hown hE.1 hP 22 rfl rfl 0 (Nat.le_of_ble_eq_true rfl) (hts _ k_318) (fun _ h9 => h9) rfl dX1_part_1 ?_
  refine lv_iload_n hx hb dX1_part_4 rfl (lv_at hl 2 rfl) ?_
  refine cbVi (n := 1) (rest := []) hx hb hml hown hts hE hP hD hS hA (sX_X7_hasCoat_1 NF l dC dI cy x0 x p2 v f hIv ) k_821 k_315 k_316 k_104 k_317 hd_yX7_hasCoat ⟨Nat.le_of_ble_eq_true rfl, Nat.le_of_ble_eq_true rfl⟩ 27 7 rfl rfl (rfl) hl.1 rfl (Nat.le_of_ble_eq_true rfl) dX1_part_5 (fun r1 u H locs hw hP hD hS => ?_)
  obtain ⟨hG2, hw⟩ := hw
  rcases hw with ⟨g3, g3_0, g3_1, g3_2⟩ | ⟨g3⟩
  · skip
    subst g3
    refine lv_if_eq (tgt := 24) hx hb dX1_part_8 rfl (fun c0 => absurd c0 (by decide)) (fun _ => ?_)
    refine lv_iload_n hx hb dX1_part_11 rfl (lv_at hl 1 rfl) ?_
    refine lv_if_lt (tgt := 24) hx hb dX1_part_12 rfl (fun c4 => ?_) (fun c4 => ?_)
    · skip
      refine lv_iconst (v := 0) hx hb dX1_part_24 rfl ?_
      refine lv_istore_n (lv' := [(3, .int 0), (0, .ref (x 21)), (1, .int p1), (2, .int p2)]) hx hb dX1_part_25 rfl hl (Nat.le_of_ble_eq_true rfl) rfl (fun ls hl => ?_)
      refine lv_iload_n hx hb dX1_part_26 rfl (lv_at hl 0 rfl) ?_
      refine lv_if_eq (tgt := 47) hx hb dX1_part_27 rfl (fun _ => ?_) (fun c0 => absurd (by decide) c0)
      refine lv_iconst (v := 0) hx hb dX1_part_47 rfl ?_
      exact ret 0 () _ _ _ _ _ _ rfl (gsX_X1_part_1_q0 hG2 c4) hP hD hS dX1_part_48 (Nat.le_refl _) (Nat.le_refl _)
    · skip
      have zc4 : ¬ (p1.toInt < 0) := zLn rfl tc_0 c4
      refine lv_iload_n hx hb dX1_part_15 rfl (lv_at hl 1 rfl) ?_
      refine lv_iconst (v := 5) hx hb dX1_part_16 rfl ?_
      refine lv_icmp_ge (tgt := 24) hx hb dX1_part_17 rfl (fun c5 => ?_) (fun c5 => ?_)
      · skip
        refine lv_iconst (v := 0) hx hb dX1_part_24 rfl ?_
        refine lv_istore_n (lv' := [(3, .int 0), (0, .ref (x 21)), (1, .int p1), (2, .int p2)]) hx hb dX1_part_25 rfl hl (Nat.le_of_ble_eq_true rfl) rfl (fun ls hl => ?_)
        refine lv_iload_n hx hb dX1_part_26 rfl (lv_at hl 0 rfl) ?_
        refine lv_if_eq (tgt := 47) hx hb dX1_part_27 rfl (fun _ => ?_) (fun c0 => absurd (by decide) c0)
        refine lv_iconst (v := 0) hx hb dX1_part_47 rfl ?_
        exact ret 0 () _ _ _ _ _ _ rfl (gsX_X1_part_1_q1 hG2 c4 c5) hP hD hS dX1_part_48 (Nat.le_refl _) (Nat.le_refl _)
      · skip
        have zc5 : ¬ (5 ≤ p1.toInt) := zMn tc_5 rfl c5
        refine lv_iconst (v := 1) hx hb dX1_part_20 rfl ?_
        refine lv_goto (tgt := 25) hx hb dX1_part_21 rfl ?_
        refine lv_istore_n (lv' := [(3, .int 1), (0, .ref (x 21)), (1, .int p1), (2, .int p2)]) hx hb dX1_part_25 rfl hl (Nat.le_of_ble_eq_true rfl) rfl (fun ls hl => ?_)
        refine lv_iload_n hx hb dX1_part_26 rfl (lv_at hl 0 rfl) ?_
        refine lv_if_eq (tgt := 47) hx hb dX1_part_27 rfl (fun c0 => absurd c0 (by decide)) (fun _ => ?_)
        refine lv_aload_n hx hb dX1_part_30 rfl (lv_at hl 1 rfl) ?_
        refine va_get (D := (dC, dI)) (ci := 1) (v := .ref (x 22)) (C := RX1) (T := TX1) (N := 2) hx hb hts inB_1 hown hE.1 hP 22 rfl rfl 1 (Nat.le_of_ble_eq_true rfl) (hts _ k_319) (fun _ h9 => h9) rfl dX1_part_31 ?_
        refine lv_bipush (v := 12) hx hb dX1_part_34 rfl ?_
        refine lv_iload_n hx hb dX1_part_36 rfl (lv_at hl 2 rfl) ?_
        refine lv_bipush (v := 6) hx hb dX1_part_37 rfl ?_
        refine lv_imul hx hb dX1_part_39 ?_
        refine lv_topi (fun t6 et6 => ?_)
        have zt6 : t6.toInt = p1.toInt * 6 := (congrArg Int32.toInt et6).trans (mul_i rfl tc_6 (om_101 zc4) (om_111 zc5))
        refine lv_iadd hx hb dX1_part_40 ?_
        refine lv_topi (fun t8 et8 => ?_)
        have rg9 := fb_rng t6
        have zt8 : t8.toInt = 12 + t6.toInt := (congrArg Int32.toInt et8).trans (add_i tc_12 rfl (om_112 rg9) (om_113 zc5 zt6))
        refine lv_iload_n hx hb dX1_part_41 rfl (lv_at hl 3 rfl) ?_
        refine lv_iadd hx hb dX1_part_42 ?_
        refine lv_topi (fun t10 et10 => ?_)
        have rg11 := fb_rng t8
        have zt10 : t10.toInt = t8.toInt + p2.toInt := (congrArg Int32.toInt et10).trans (add_i rfl rfl (om_103 g3_0 rg11) (om_144 g3_2 zc5 zt6 zt8))
        refine ldI hx hb hE hP 23 rfl (vpI (k := 44) rfl (show 0 ≤ t10.toInt from om_145 g3_0 zc4 zt6 zt8 zt10) (show t10.toInt < 44 from om_146 g3_2 zc5 zt6 zt8 zt10)) rfl rfl dX1_part_43 ?_
        refine lv_topi (fun t13 et13 => ?_)
        refine lv_goto (tgt := 48) hx hb dX1_part_44 rfl ?_
        exact ret t13 () _ _ _ _ _ _ rfl (gsX_X1_part_1_q2 hG2 c4 c5 et6 et8 et10 et13) hP hD hS dX1_part_48 (Nat.le_refl _) (Nat.le_refl _)
  · skip
    subst g3
    refine lv_if_eq (tgt := 24) hx hb dX1_part_8 rfl (fun _ => ?_) (fun c0 => absurd (by decide) c0)
    refine lv_iconst (v := 0) hx hb dX1_part_24 rfl ?_
    refine lv_istore_n (lv' := [(3, .int 0), (0, .ref (x 21)), (1, .int p1), (2, .int p2)]) hx hb dX1_part_25 rfl hl (Nat.le_of_ble_eq_true rfl) rfl (fun ls hl => ?_)
    refine lv_iload_n hx hb dX1_part_26 rfl (lv_at hl 0 rfl) ?_
    refine lv_if_eq (tgt := 47) hx hb dX1_part_27 rfl (fun _ => ?_) (fun c0 => absurd (by decide) c0)
    refine lv_iconst (v := 0) hx hb dX1_part_47 rfl ?_
    exact ret 0 () _ _ _ _ _ _ rfl (gsX_X1_part_1_q3 hG2) hP hD hS dX1_part_48 (Nat.le_refl _) (Nat.le_refl _)
set_option maxHeartbeats 4000000 in
set_option maxRecDepth 100000 in
theorem sX_X1_today_1 (NF : Nat) (l : Launch) (dC : Nat → ClassId) (dI : Nat → Nat → Nat) (cy : Nat → ClassId) (x0 : Nat) (x : Nat → Nat)  (v : Nat → Int32) (f : Nat → Nat → Int32) (hIv : XI v)  : ctI l (dC, dI) cy yX1_today cX1_today 1 .int 1 60 0 0 Unit [.ref (x 21)] (XW cy x0 x v f) (fun r u => gsX_X1_today_1 NF v f = r) (fun u => XW cy x0 x v f) := by
  refine ctI_of (by decide) (Nat.le_of_ble_eq_true rfl) (fun p e s m below meth c A ls Q hx hb hml hts hown hE hP hD hA hl ret => ?_)
  have hown : s.vm.findClass RX1 = some m.cls := hown
  have hS : va_S A s.heap s.heap [] := va_S.rf
  have hl : lv_has ls 1 [(0, .ref (x 21))] := hl
  refine lv_aload_n hx hb dX1_today_0 rfl (lv_at hl 0 rfl) ?_
  refine va_get (D := (dC, dI)) (ci := 1) (v := .ref (x 22)) (C := RX1) (T := TX1) (N := 2) hx hb hts inB_1 hown hE.1 hP 22 rfl rfl 1 (Nat.le_of_ble_eq_true rfl) (hts _ k_319) (fun _ h9 => h9) rfl dX1_today_1 ?_
  refine lv_bipush (v := 42) hx hb dX1_today_4 rfl ?_
  refine ldI hx hb hE hP 23 rfl (vp_in_nI (n := 42) (by decide) (by decide)) rfl rfl dX1_today_6 ?_
  refine lv_topi (fun t1 et1 => ?_)
  exact ret t1 () _ _ _ _ _ _ rfl (gsX_X1_today_1_q0 et1) hP hD hS dX1_today_7 (Nat.le_refl _) (Nat.le_refl _)
set_option maxHeartbeats 4000000 in
set_option maxRecDepth 100000 in
theorem sX_X4_joined_1 (NF : Nat) (l : Launch) (dC : Nat → ClassId) (dI : Nat → Nat → Nat) (cy : Nat → ClassId) (x0 : Nat) (x : Nat → Nat) (p0 : Int32) (p1 : Int32) (p2 : Int32) (v : Nat → Int32) (f : Nat → Nat → Int32) (hIv : XI v)  : ctI l (dC, dI) cy yX4_joined cX4_joined 3 .int 1 60 0 0 Unit [.int p0, .int p1, .int p2] (XW cy x0 x v f) (fun r u => gsX_X4_joined_1 NF p0 p1 p2 v f = r) (fun u => XW cy x0 x v f) := by
  refine ctI_of (by decide) (Nat.le_of_ble_eq_true rfl) (fun p e s m below meth c A ls Q hx hb hml hts hown hE hP hD hA hl ret => ?_)
  have hown : s.vm.findClass RX4 = some m.cls := hown
  have hS : va_S A s.heap s.heap [] := va_S.rf
  have hl : lv_has ls 3 [(0, .int p0), (1, .int p1), (2, .int p2)] := hl
  refine lv_iload_n hx hb dX4_joined_0 rfl (lv_at hl 0 rfl) ?_
  by_cases c1 : p0 = 37
  · skip
    refine lv_lookup (off := 115) (tgt := 116) hx hb dX4_joined_1 (by decide) (by rw [c1]; decide) (by decide) ?_
    refine lv_iload_n hx hb dX4_joined_116 rfl (lv_at hl 2 rfl) ?_
    refine lv_if_ne (tgt := 124) hx hb dX4_joined_117 rfl (fun c2 => ?_) (fun c2 => ?_)
    · skip
      have zc2 : ¬ (p2.toInt = 0) := zEn rfl tc_0 c2
      refine lv_iload_n hx hb dX4_joined_124 rfl (lv_at hl 1 rfl) ?_
      refine lv_iload_n hx hb dX4_joined_125 rfl (lv_at hl 2 rfl) ?_
      refine lv_irem hx hb dX4_joined_126 (ne0 (show ¬ p2.toInt = 0 from om_139 zc2)) ?_
      refine lv_topi (fun t3 et3 => ?_)
      exact ret t3 () _ _ _ _ _ _ rfl (gsX_X4_joined_1_q0 c1 c2 et3) hP hD hS dX4_joined_127 (Nat.le_refl _) (Nat.le_refl _)
    · skip
      refine lv_iconst (v := 0) hx hb dX4_joined_120 rfl ?_
      refine lv_goto (tgt := 127) hx hb dX4_joined_121 rfl ?_
      exact ret 0 () _ _ _ _ _ _ rfl (gsX_X4_joined_1_q1 c1 c2) hP hD hS dX4_joined_127 (Nat.le_refl _) (Nat.le_refl _)
  · skip
    by_cases c4 : p0 = 42
    · skip
      refine lv_lookup (off := 99) (tgt := 100) hx hb dX4_joined_1 (by decide) (by rw [c4]; decide) (by decide) ?_
      refine lv_iload_n hx hb dX4_joined_100 rfl (lv_at hl 1 rfl) ?_
      refine lv_iload_n hx hb dX4_joined_101 rfl (lv_at hl 2 rfl) ?_
      refine lv_imul hx hb dX4_joined_102 ?_
      refine lv_topi (fun t5 et5 => ?_)
      exact ret t5 () _ _ _ _ _ _ rfl (gsX_X4_joined_1_q2 c1 c4 et5) hP hD hS dX4_joined_103 (Nat.le_refl _) (Nat.le_refl _)
    · skip
      by_cases c6 : p0 = 43
      · skip
        refine lv_lookup (off := 91) (tgt := 92) hx hb dX4_joined_1 (by decide) (by rw [c6]; decide) (by decide) ?_
        refine lv_iload_n hx hb dX4_joined_92 rfl (lv_at hl 1 rfl) ?_
        refine lv_iload_n hx hb dX4_joined_93 rfl (lv_at hl 2 rfl) ?_
        refine lv_iadd hx hb dX4_joined_94 ?_
        refine lv_topi (fun t7 et7 => ?_)
        exact ret t7 () _ _ _ _ _ _ rfl (gsX_X4_joined_1_q3 c1 c4 c6 et7) hP hD hS dX4_joined_95 (Nat.le_refl _) (Nat.le_refl _)
      · skip
        by_cases c8 : p0 = 45
        · skip
          refine lv_lookup (off := 95) (tgt := 96) hx hb dX4_joined_1 (by decide) (by rw [c8]; decide) (by decide) ?_
          refine lv_iload_n hx hb dX4_joined_96 rfl (lv_at hl 1 rfl) ?_
          refine lv_iload_n hx hb dX4_joined_97 rfl (lv_at hl 2 rfl) ?_
          refine lv_isub hx hb dX4_joined_98 ?_
          refine lv_topi (fun t9 et9 => ?_)
          exact ret t9 () _ _ _ _ _ _ rfl (gsX_X4_joined_1_q4 c1 c4 c6 c8 et9) hP hD hS dX4_joined_99 (Nat.le_refl _) (Nat.le_refl _)
        · skip
          by_cases c10 : p0 = 47
          · skip
            refine lv_lookup (off := 103) (tgt := 104) hx hb dX4_joined_1 (by decide) (by rw [c10]; decide) (by decide) ?_
            refine lv_iload_n hx hb dX4_joined_104 rfl (lv_at hl 2 rfl) ?_
            refine lv_if_ne (tgt := 112) hx hb dX4_joined_105 rfl (fun c11 => ?_) (fun c11 => ?_)
            · skip
              have zc11 : ¬ (p2.toInt = 0) := zEn rfl tc_0 c11
              refine lv_iload_n hx hb dX4_joined_112 rfl (lv_at hl 1 rfl) ?_
              refine lv_iload_n hx hb dX4_joined_113 rfl (lv_at hl 2 rfl) ?_
              refine lv_idiv hx hb dX4_joined_114 (ne0 (show ¬ p2.toInt = 0 from om_139 zc11)) ?_
              refine lv_topi (fun t12 et12 => ?_)
              exact ret t12 () _ _ _ _ _ _ rfl (gsX_X4_joined_1_q5 c1 c4 c6 c8 c10 c11 et12) hP hD hS dX4_joined_115 (Nat.le_refl _) (Nat.le_refl _)
            · skip
              refine lv_iconst (v := 0) hx hb dX4_joined_108 rfl ?_
              refine lv_goto (tgt := 115) hx hb dX4_joined_109 rfl ?_
              exact ret 0 () _ _ _ _ _ _ rfl (gsX_X4_joined_1_q6 c1 c4 c6 c8 c10 c11) hP hD hS dX4_joined_115 (Nat.le_refl _) (Nat.le_refl _)
          · skip
            by_cases c13 : p0 = 60
            · skip
              refine lv_lookup (off := 127) (tgt := 128) hx hb dX4_joined_1 (by decide) (by rw [c13]; decide) (by decide) ?_
              refine lv_iload_n hx hb dX4_joined_128 rfl (lv_at hl 1 rfl) ?_
              refine lv_iload_n hx hb dX4_joined_129 rfl (lv_at hl 2 rfl) ?_
              refine lv_icmp_ge (tgt := 137) hx hb dX4_joined_130 rfl (fun c14 => ?_) (fun c14 => ?_)
              · skip
                refine lv_iconst (v := 0) hx hb dX4_joined_137 rfl ?_
                exact ret 0 () _ _ _ _ _ _ rfl (gsX_X4_joined_1_q7 c1 c4 c6 c8 c10 c13 c14) hP hD hS dX4_joined_138 (Nat.le_refl _) (Nat.le_refl _)
              · skip
                refine lv_iconst (v := 1) hx hb dX4_joined_133 rfl ?_
                refine lv_goto (tgt := 138) hx hb dX4_joined_134 rfl ?_
                exact ret 1 () _ _ _ _ _ _ rfl (gsX_X4_joined_1_q8 c1 c4 c6 c8 c10 c13 c14) hP hD hS dX4_joined_138 (Nat.le_refl _) (Nat.le_refl _)
            · skip
              by_cases c19 : p0 = 61
              · skip
                refine lv_lookup (off := 149) (tgt := 150) hx hb dX4_joined_1 (by decide) (by rw [c19]; decide) (by decide) ?_
                refine lv_iload_n hx hb dX4_joined_150 rfl (lv_at hl 1 rfl) ?_
                refine lv_iload_n hx hb dX4_joined_151 rfl (lv_at hl 2 rfl) ?_
                refine lv_icmp_ne (tgt := 159) hx hb dX4_joined_152 rfl (fun c20 => ?_) (fun c20 => ?_)
                · skip
                  refine lv_iconst (v := 0) hx hb dX4_joined_159 rfl ?_
                  exact ret 0 () _ _ _ _ _ _ rfl (gsX_X4_joined_1_q9 c1 c4 c6 c8 c10 c13 c19 c20) hP hD hS dX4_joined_160 (Nat.le_refl _) (Nat.le_refl _)
                · skip
                  refine lv_iconst (v := 1) hx hb dX4_joined_155 rfl ?_
                  refine lv_goto (tgt := 160) hx hb dX4_joined_156 rfl ?_
                  exact ret 1 () _ _ _ _ _ _ rfl (gsX_X4_joined_1_q10 c1 c4 c6 c8 c10 c13 c19 c20) hP hD hS dX4_joined_160 (Nat.le_refl _) (Nat.le_refl _)
              · skip
                by_cases c25 : p0 = 62
                · skip
                  refine lv_lookup (off := 138) (tgt := 139) hx hb dX4_joined_1 (by decide) (by rw [c25]; decide) (by decide) ?_
                  refine lv_iload_n hx hb dX4_joined_139 rfl (lv_at hl 1 rfl) ?_
                  refine lv_iload_n hx hb dX4_joined_140 rfl (lv_at hl 2 rfl) ?_
                  refine lv_icmp_le (tgt := 148) hx hb dX4_joined_141 rfl (fun c26 => ?_) (fun c26 => ?_)
                  · skip
                    refine lv_iconst (v := 0) hx hb dX4_joined_148 rfl ?_
                    exact ret 0 () _ _ _ _ _ _ rfl (gsX_X4_joined_1_q11 c1 c4 c6 c8 c10 c13 c19 c25 c26) hP hD hS dX4_joined_149 (Nat.le_refl _) (Nat.le_refl _)
                  · skip
                    refine lv_iconst (v := 1) hx hb dX4_joined_144 rfl ?_
                    refine lv_goto (tgt := 149) hx hb dX4_joined_145 rfl ?_
                    exact ret 1 () _ _ _ _ _ _ rfl (gsX_X4_joined_1_q12 c1 c4 c6 c8 c10 c13 c19 c25 c26) hP hD hS dX4_joined_149 (Nat.le_refl _) (Nat.le_refl _)
                · skip
                  by_cases c31 : p0 = 113
                  · skip
                    refine lv_lookup (off := 174) (tgt := 175) hx hb dX4_joined_1 (by decide) (by rw [c31]; decide) (by decide) ?_
                    refine lv_iload_n hx hb dX4_joined_175 rfl (lv_at hl 1 rfl) ?_
                    refine lv_if_ne (tgt := 183) hx hb dX4_joined_176 rfl (fun c32 => ?_) (fun c32 => ?_)
                    · skip
                      refine lv_iconst (v := 1) hx hb dX4_joined_183 rfl ?_
                      refine lv_goto (tgt := 188) hx hb dX4_joined_184 rfl ?_
                      exact ret 1 () _ _ _ _ _ _ rfl (gsX_X4_joined_1_q13 c1 c4 c6 c8 c10 c13 c19 c25 c31 c32) hP hD hS dX4_joined_188 (Nat.le_refl _) (Nat.le_refl _)
                    · skip
                      refine lv_iload_n hx hb dX4_joined_179 rfl (lv_at hl 2 rfl) ?_
                      refine lv_if_eq (tgt := 187) hx hb dX4_joined_180 rfl (fun c33 => ?_) (fun c33 => ?_)
                      · skip
                        refine lv_iconst (v := 0) hx hb dX4_joined_187 rfl ?_
                        exact ret 0 () _ _ _ _ _ _ rfl (gsX_X4_joined_1_q14 c1 c4 c6 c8 c10 c13 c19 c25 c31 c32 c33) hP hD hS dX4_joined_188 (Nat.le_refl _) (Nat.le_refl _)
                      · skip
                        refine lv_iconst (v := 1) hx hb dX4_joined_183 rfl ?_
                        refine lv_goto (tgt := 188) hx hb dX4_joined_184 rfl ?_
                        exact ret 1 () _ _ _ _ _ _ rfl (gsX_X4_joined_1_q15 c1 c4 c6 c8 c10 c13 c19 c25 c31 c32 c33) hP hD hS dX4_joined_188 (Nat.le_refl _) (Nat.le_refl _)
                  · skip
                    by_cases c34 : p0 = 114
                    · skip
                      refine lv_lookup (off := 160) (tgt := 161) hx hb dX4_joined_1 (by decide) (by rw [c34]; decide) (by decide) ?_
                      refine lv_iload_n hx hb dX4_joined_161 rfl (lv_at hl 1 rfl) ?_
                      refine lv_if_eq (tgt := 173) hx hb dX4_joined_162 rfl (fun c35 => ?_) (fun c35 => ?_)
                      · skip
                        refine lv_iconst (v := 0) hx hb dX4_joined_173 rfl ?_
                        exact ret 0 () _ _ _ _ _ _ rfl (gsX_X4_joined_1_q16 c1 c4 c6 c8 c10 c13 c19 c25 c31 c34 c35) hP hD hS dX4_joined_174 (Nat.le_refl _) (Nat.le_refl _)
                      · skip
                        refine lv_iload_n hx hb dX4_joined_165 rfl (lv_at hl 2 rfl) ?_
                        refine lv_if_eq (tgt := 173) hx hb dX4_joined_166 rfl (fun c36 => ?_) (fun c36 => ?_)
                        · skip
                          refine lv_iconst (v := 0) hx hb dX4_joined_173 rfl ?_
                          exact ret 0 () _ _ _ _ _ _ rfl (gsX_X4_joined_1_q17 c1 c4 c6 c8 c10 c13 c19 c25 c31 c34 c35 c36) hP hD hS dX4_joined_174 (Nat.le_refl _) (Nat.le_refl _)
                        · skip
                          refine lv_iconst (v := 1) hx hb dX4_joined_169 rfl ?_
                          refine lv_goto (tgt := 174) hx hb dX4_joined_170 rfl ?_
                          exact ret 1 () _ _ _ _ _ _ rfl (gsX_X4_joined_1_q18 c1 c4 c6 c8 c10 c13 c19 c25 c31 c34 c35 c36) hP hD hS dX4_joined_174 (Nat.le_refl _) (Nat.le_refl _)
                    · skip
                      refine lv_lookup (off := 188) (tgt := 189) hx hb dX4_joined_1 (by decide) (by show Op.lookupswitch.offset [(37, 115), (42, 99), (43, 91), (45, 95), (47, 103), (60, 127), (61, 149), (62, 138), (113, 174), (114, 160)] 188 p0.toInt = 188; rw [lv_osw c1 (by decide), lv_osw c4 (by decide), lv_osw c6 (by decide), lv_osw c8 (by decide), lv_osw c10 (by decide), lv_osw c13 (by decide), lv_osw c19 (by decide), lv_osw c25 (by decide), lv_osw c31 (by decide), lv_osw c34 (by decide)]; rfl) (by decide) ?_
                      refine lv_iconst (v := 0) hx hb dX4_joined_189 rfl ?_
                      exact ret 0 () _ _ _ _ _ _ rfl (gsX_X4_joined_1_q19 c1 c4 c6 c8 c10 c13 c19 c25 c31 c34) hP hD hS dX4_joined_190 (Nat.le_refl _) (Nat.le_refl _)
set_option maxHeartbeats 4000000 in
set_option maxRecDepth 100000 in
theorem sX_X4_worth_1 (NF : Nat) (l : Launch) (dC : Nat → ClassId) (dI : Nat → Nat → Nat) (cy : Nat → ClassId) (x0 : Nat) (x : Nat → Nat) (p1 : Int32) (p2 : Int32) (p3 : Int32) (p4 : Int32) (p5 : Int32) (p6 : Int32) (v : Nat → Int32) (f : Nat → Nat → Int32) (hIv : XI v)  : ctI l (dC, dI) cy yX4_worth cX4_worth 10 .int 2 82 0 0 ((Nat → Int32) × (Nat → Nat → Int32)) [.ref (x 15), .int p1, .int p2, .int p3, .int p4, .int p5, .int p6] (XW cy x0 x v f) (fun r u => gsX_X4_worth_1 NF p1 p2 p3 p4 p5 p6 v f = (r, u) ∧ KV [] u.1 v ∧ KF [13, 14] u.2 f ∧ XI u.1 ∧ u.1 0 = v 0 ∧ u.1 1 = v 1 ∧ u.1 7 = v 7 ∧ u.1 8 = v 8 ∧ u.1 9 = v 9 ∧ u.1 10 = v 10 ∧ u.1 31 = v 31 ∧ u.1 32 = v 32) (fun u => XW cy x0 x u.1 u.2) := by
  refine ctI_of (by decide) (Nat.le_of_ble_eq_true rfl) (fun p e s m below meth c A ls Q hx hb hml hts hown hE hP hD hA hl ret => ?_)
  have hM_v : KV [] v v := fun _ _ => rfl
  have hA_f : KF [13, 14] f f := fun _ _ => rfl
  have hown : s.vm.findClass RX4 = some m.cls := hown
  have hS : va_S A s.heap s.heap [] := va_S.rf
  have hl : lv_has ls 10 [(0, .ref (x 15)), (1, .int p1), (2, .int p2), (3, .int p3), (4, .int p4), (5, .int p5), (6, .int p6)] := hl
  refine lv_aload_n hx hb dX4_worth_0 rfl (lv_at hl 0 rfl) ?_
  refine va_get (D := (dC, dI)) (ci := 4) (v := .ref (x 19)) (C := RX4) (T := TX4) (N := 6) hx hb hts inB_4 hown hE.1 hP 16 rfl rfl 3 (Nat.le_of_ble_eq_true rfl) (hts _ k_181) (fun _ h9 => h9) rfl dX4_worth_1 ?_
  refine lv_iconst (v := 0) hx hb dX4_worth_4 rfl ?_
  refine lv_iconst (v := 0) hx hb dX4_worth_5 rfl ?_
  refine lv_iload_n hx hb dX4_worth_6 rfl (lv_at hl 2 rfl) ?_
  refine lv_iload hx hb dX4_worth_7 (lv_at hl 4 rfl) ?_
  refine lv_isub hx hb dX4_worth_9 ?_
  refine lv_topi (fun t1 et1 => ?_)
  refine va_mmax hx hb (by rw [hml]; exact hl.1.symm) hown (hts _ k_839) (hts _ k_640) (hts _ k_119) (hts _ k_641) (Nat.le_of_ble_eq_true rfl) (Nat.le_of_ble_eq_true rfl) (Nat.le_of_ble_eq_true rfl) (Nat.le_of_ble_eq_true rfl) dX4_worth_10 ?_
  refine lv_topi (fun t2 et2 => ?_)
  refine stI hx hb hE hP hD hS 20 rfl (vp_in_nI (n := 0) (by decide) (by decide)) rfl dX4_worth_13 (fun H locs hP hD hS => ?_)
  obtain ⟨f3, ef3, hP, hD⟩ : ∃ fz9, fz9 = upd2 f 14 (upd (f 14) (0 : Int32).toNatClampNeg t2) ∧ va_P (dC, dI) vwCl (XW cy x0 x v fz9) H ∧ va_D A (XW cy x0 x v fz9) := ⟨_, rfl, hP, hD⟩
  have hA_f3 : KF [13, 14] f3 f := by rw [ef3]; exact KF.up hA_f rfl
  refine lv_aload_n hx hb dX4_worth_14 rfl (lv_at hl 0 rfl) ?_
  refine va_get (D := (dC, dI)) (ci := 4) (v := .ref (x 19)) (C := RX4) (T := TX4) (N := 6) hx hb hts inB_4 hown hE.1 hP 16 rfl rfl 3 (Nat.le_of_ble_eq_true rfl) (hts _ k_181) (fun _ h9 => h9) rfl dX4_worth_15 ?_
  refine lv_iconst (v := 1) hx hb dX4_worth_18 rfl ?_
  refine lv_iconst (v := 0) hx hb dX4_worth_19 rfl ?_
  refine lv_iload hx hb dX4_worth_20 (lv_at hl 4 rfl) ?_
  refine lv_iload_n hx hb dX4_worth_22 rfl (lv_at hl 2 rfl) ?_
  refine lv_isub hx hb dX4_worth_23 ?_
  refine lv_topi (fun t4 et4 => ?_)
  refine va_mmax hx hb (by rw [hml]; exact hl.1.symm) hown (hts _ k_839) (hts _ k_640) (hts _ k_119) (hts _ k_641) (Nat.le_of_ble_eq_true rfl) (Nat.le_of_ble_eq_true rfl) (Nat.le_of_ble_eq_true rfl) (Nat.le_of_ble_eq_true rfl) dX4_worth_24 ?_
  refine lv_topi (fun t5 et5 => ?_)
  refine stI hx hb hE hP hD hS 20 rfl (vp_in_nI (n := 1) (by decide) (by decide)) rfl dX4_worth_27 (fun H locs hP hD hS => ?_)
  obtain ⟨f6, ef6, hP, hD⟩ : ∃ fz9, fz9 = upd2 f3 14 (upd (f3 14) (1 : Int32).toNatClampNeg t5) ∧ va_P (dC, dI) vwCl (XW cy x0 x v fz9) H ∧ va_D A (XW cy x0 x v fz9) := ⟨_, rfl, hP, hD⟩
  have hA_f6 : KF [13, 14] f6 f := by rw [ef6]; exact KF.up hA_f3 rfl
  refine lv_aload_n hx hb dX4_worth_28 rfl (lv_at hl 0 rfl) ?_
  refine va_get (D := (dC, dI)) (ci := 4) (v := .ref (x 19)) (C := RX4) (T := TX4) (N := 6) hx hb hts inB_4 hown hE.1 hP 16 rfl rfl 3 (Nat.le_of_ble_eq_true rfl) (hts _ k_181) (fun _ h9 => h9) rfl dX4_worth_29 ?_
  refine lv_iconst (v := 2) hx hb dX4_worth_32 rfl ?_
  refine lv_iconst (v := 0) hx hb dX4_worth_33 rfl ?_
  refine lv_iload_n hx hb dX4_worth_34 rfl (lv_at hl 1 rfl) ?_
  refine lv_iload_n hx hb dX4_worth_35 rfl (lv_at hl 3 rfl) ?_
  refine lv_isub hx hb dX4_worth_36 ?_
  refine lv_topi (fun t7 et7 => ?_)
  refine va_mmax hx hb (by rw [hml]; exact hl.1.symm) hown (hts _ k_839) (hts _ k_640) (hts _ k_119) (hts _ k_641) (Nat.le_of_ble_eq_true rfl) (Nat.le_of_ble_eq_true rfl) (Nat.le_of_ble_eq_true rfl) (Nat.le_of_ble_eq_true rfl) dX4_worth_37 ?_
  refine lv_topi (fun t8 et8 => ?_)
  refine stI hx hb hE hP hD hS 20 rfl (vp_in_nI (n := 2) (by decide) (by decide)) rfl dX4_worth_40 (fun H locs hP hD hS => ?_)
  obtain ⟨f9, ef9, hP, hD⟩ : ∃ fz9, fz9 = upd2 f6 14 (upd (f6 14) (2 : Int32).toNatClampNeg t8) ∧ va_P (dC, dI) vwCl (XW cy x0 x v fz9) H ∧ va_D A (XW cy x0 x v fz9) := ⟨_, rfl, hP, hD⟩
  have hA_f9 : KF [13, 14] f9 f := by rw [ef9]; exact KF.up hA_f6 rfl
  refine lv_aload_n hx hb dX4_worth_41 rfl (lv_at hl 0 rfl) ?_
  refine va_get (D := (dC, dI)) (ci := 4) (v := .ref (x 19)) (C := RX4) (T := TX4) (N := 6) hx hb hts inB_4 hown hE.1 hP 16 rfl rfl 3 (Nat.le_of_ble_eq_true rfl) (hts _ k_181) (fun _ h9 => h9) rfl dX4_worth_42 ?_
  refine lv_iconst (v := 3) hx hb dX4_worth_45 rfl ?_
  refine lv_iconst (v := 0) hx hb dX4_worth_46 rfl ?_
  refine lv_iload_n hx hb dX4_worth_47 rfl (lv_at hl 3 rfl) ?_
  refine lv_iload_n hx hb dX4_worth_48 rfl (lv_at hl 1 rfl) ?_
  refine lv_isub hx hb dX4_worth_49 ?_
  refine lv_topi (fun t10 et10 => ?_)
  refine va_mmax hx hb (by rw [hml]; exact hl.1.symm) hown (hts _ k_839) (hts _ k_640) (hts _ k_119) (hts _ k_641) (Nat.le_of_ble_eq_true rfl) (Nat.le_of_ble_eq_true rfl) (Nat.le_of_ble_eq_true rfl) (Nat.le_of_ble_eq_true rfl) dX4_worth_50 ?_
  refine lv_topi (fun t11 et11 => ?_)
  refine stI hx hb hE hP hD hS 20 rfl (vp_in_nI (n := 3) (by decide) (by decide)) rfl dX4_worth_53 (fun H locs hP hD hS => ?_)
  obtain ⟨f12, ef12, hP, hD⟩ : ∃ fz9, fz9 = upd2 f9 14 (upd (f9 14) (3 : Int32).toNatClampNeg t11) ∧ va_P (dC, dI) vwCl (XW cy x0 x v fz9) H ∧ va_D A (XW cy x0 x v fz9) := ⟨_, rfl, hP, hD⟩
  have hA_f12 : KF [13, 14] f12 f := by rw [ef12]; exact KF.up hA_f9 rfl
  refine lv_aload_n hx hb dX4_worth_54 rfl (lv_at hl 0 rfl) ?_
  refine va_get (D := (dC, dI)) (ci := 4) (v := .ref (x 19)) (C := RX4) (T := TX4) (N := 6) hx hb hts inB_4 hown hE.1 hP 16 rfl rfl 3 (Nat.le_of_ble_eq_true rfl) (hts _ k_181) (fun _ h9 => h9) rfl dX4_worth_55 ?_
  refine lv_iconst (v := 4) hx hb dX4_worth_58 rfl ?_
  refine lv_iload hx hb dX4_worth_59 (lv_at hl 5 rfl) ?_
  refine stI hx hb hE hP hD hS 20 rfl (vp_in_nI (n := 4) (by decide) (by decide)) rfl dX4_worth_61 (fun H locs hP hD hS => ?_)
  obtain ⟨f13, ef13, hP, hD⟩ : ∃ fz9, fz9 = upd2 f12 14 (upd (f12 14) (4 : Int32).toNatClampNeg p5) ∧ va_P (dC, dI) vwCl (XW cy x0 x v fz9) H ∧ va_D A (XW cy x0 x v fz9) := ⟨_, rfl, hP, hD⟩
  have hA_f13 : KF [13, 14] f13 f := by rw [ef13]; exact KF.up hA_f12 rfl
  refine lv_aload_n hx hb dX4_worth_62 rfl (lv_at hl 0 rfl) ?_
  refine va_get (D := (dC, dI)) (ci := 4) (v := .ref (x 19)) (C := RX4) (T := TX4) (N := 6) hx hb hts inB_4 hown hE.1 hP 16 rfl rfl 3 (Nat.le_of_ble_eq_true rfl) (hts _ k_181) (fun _ h9 => h9) rfl dX4_worth_63 ?_
  refine lv_iconst (v := 5) hx hb dX4_worth_66 rfl ?_
  refine lv_iload hx hb dX4_worth_67 (lv_at hl 6 rfl) ?_
  refine stI hx hb hE hP hD hS 20 rfl (vp_in_nI (n := 5) (by decide) (by decide)) rfl dX4_worth_69 (fun H locs hP hD hS => ?_)
  obtain ⟨f14, ef14, hP, hD⟩ : ∃ fz9, fz9 = upd2 f13 14 (upd (f13 14) (5 : Int32).toNatClampNeg p6) ∧ va_P (dC, dI) vwCl (XW cy x0 x v fz9) H ∧ va_D A (XW cy x0 x v fz9) := ⟨_, rfl, hP, hD⟩
  have hA_f14 : KF [13, 14] f14 f := by rw [ef14]; exact KF.up hA_f13 rfl
  refine lv_aload_n hx hb dX4_worth_70 rfl (lv_at hl 0 rfl) ?_
  refine va_get (D := (dC, dI)) (ci := 4) (v := .int (v 18)) (C := RX4) (T := TX4) (N := 6) hx hb hts inB_4 hown hE.1 hP 16 rfl rfl 4 (Nat.le_of_ble_eq_true rfl) (hts _ k_182) (fun _ h9 => h9) rfl dX4_worth_71 ?_
  refine lv_if_ne (tgt := 118) hx hb dX4_worth_74 rfl (fun c15 => ?_) (fun c15 => ?_)
  · skip
    refine lv_iconst (v := 0) hx hb dX4_worth_118 rfl ?_
    refine lv_istore (lv' := [(7, .int 0), (0, .ref (x 15)), (1, .int p1), (2, .int p2), (3, .int p3), (4, .int p4), (5, .int p5), (6, .int p6)]) hx hb dX4_worth_119 hl (Nat.le_of_ble_eq_true rfl) rfl (fun ls hl => ?_)
    refine lv_iconst (v := 0) hx hb dX4_worth_121 rfl ?_
    refine lv_istore (lv' := [(8, .int 0), (7, .int 0), (0, .ref (x 15)), (1, .int p1), (2, .int p2), (3, .int p3), (4, .int p4), (5, .int p5), (6, .int p6)]) hx hb dX4_worth_122 hl (Nat.le_of_ble_eq_true rfl) rfl (fun ls hl => ?_)
    have lp16 : ∀ (n16 : Nat) (l7_16 : Int32) (l8_16 : Int32) (v16 : Nat → Int32) (f16 : Nat → Nat → Int32), XI v16 → v16 0 = (v 0) → v16 1 = (v 1) → v16 7 = (v 7) → v16 8 = (v 8) → v16 9 = (v 9) → v16 10 = (v 10) → v16 31 = (v 31) → v16 32 = (v 32) → gsX_X4_worth_1_L16 NF n16 l7_16 l8_16 v16 f16 = (gsX_X4_worth_1 NF p1 p2 p3 p4 p5 p6 v f) → ((0 : Int) ≤ l7_16.toInt ∧ l7_16.toInt ≤ 30) → ((0 : Int) ≤ l8_16.toInt ∧ l8_16.toInt ≤ 2147483647) → KV [] v16 v → KF [13, 14] f16 f → (2147483647 - l8_16.toInt).toNat < n16 → ∀ (H : Heap) (locs : List Loc) (ls : Array Slot), va_P (dC, dI) vwCl (XW cy x0 x v16 f16) H → va_D A (XW cy x0 x v16 f16) → va_S A s.heap H locs → lv_has ls 10 [(8, .int l8_16), (7, .int l7_16), (0, .ref (x 15)), (1, .int p1), (2, .int p2), (3, .int p3), (4, .int p4), (5, .int p5), (6, .int p6)] → W p l e { frames := 2, cells := 0, slots := 0, locals := 82 } s m ([.ref (x 15), .int p1, .int p2, .int p3, .int p4, .int p5, .int p6] : List Value).toArray below meth c H locs 0 0 Q (F0 m 124 ls []) := by
      intro n16
      induction n16 with
      | zero => intro l7_16 l8_16 v16 f16 hIv16 hq0_v16 hq1_v16 hq7_v16 hq8_v16 hq9_v16 hq10_v16 hq31_v16 hq32_v16 hT16 hr7_16 hr8_16 hM_v16 hA_f16 hm; exact absurd hm (Nat.not_lt_zero _)
      | succ n16 ih16 =>
        intro l7_16 l8_16 v16 f16 hIv16 hq0_v16 hq1_v16 hq7_v16 hq8_v16 hq9_v16 hq10_v16 hq31_v16 hq32_v16 hT16 hr7_16 hr8_16 hM_v16 hA_f16 hm16 H locs ls hP hD hS hl
        refine lv_iload hx hb dX4_worth_124 (lv_at hl 0 rfl) ?_
        refine lv_aload_n hx hb dX4_worth_126 rfl (lv_at hl 2 rfl) ?_
        refine va_get (D := (dC, dI)) (ci := 4) (v := .int (v16 18)) (C := RX4) (T := TX4) (N := 6) hx hb hts inB_4 hown hE.1 hP 16 rfl rfl 4 (Nat.le_of_ble_eq_true rfl) (hts _ k_182) (fun _ h9 => h9) rfl dX4_worth_127 ?_
        refine lv_icmp_ge (tgt := 305) hx hb dX4_worth_130 rfl (fun c17 => ?_) (fun c17 => ?_)
        · skip
          refine lv_iconst (v := 0) hx hb dX4_worth_305 rfl ?_
          refine lv_sipush (v := 999) hx hb dX4_worth_306 rfl ?_
          refine lv_aload_n hx hb dX4_worth_309 rfl (lv_at hl 2 rfl) ?_
          refine va_get (D := (dC, dI)) (ci := 4) (v := .ref (x 18)) (C := RX4) (T := TX4) (N := 6) hx hb hts inB_4 hown hE.1 hP 16 rfl rfl 2 (Nat.le_of_ble_eq_true rfl) (hts _ k_180) (fun _ h9 => h9) rfl dX4_worth_310 ?_
          refine lv_iconst (v := 0) hx hb dX4_worth_313 rfl ?_
          refine ldI hx hb hE hP 19 rfl (vp_in_nI (n := 0) (by decide) (by decide)) rfl rfl dX4_worth_314 ?_
          refine lv_topi (fun t20 et20 => ?_)
          refine va_mmin hx hb (by rw [hml]; exact hl.1.symm) hown (hts _ k_840) (hts _ k_643) (hts _ k_119) (hts _ k_644) (Nat.le_of_ble_eq_true rfl) (Nat.le_of_ble_eq_true rfl) (Nat.le_of_ble_eq_true rfl) (Nat.le_of_ble_eq_true rfl) dX4_worth_315 ?_
          refine lv_topi (fun t21 et21 => ?_)
          refine va_mmax hx hb (by rw [hml]; exact hl.1.symm) hown (hts _ k_839) (hts _ k_640) (hts _ k_119) (hts _ k_641) (Nat.le_of_ble_eq_true rfl) (Nat.le_of_ble_eq_true rfl) (Nat.le_of_ble_eq_true rfl) (Nat.le_of_ble_eq_true rfl) dX4_worth_318 ?_
          refine lv_topi (fun t22 et22 => ?_)
          exact ret t22 (v16, f16) _ _ _ _ _ _ rfl ⟨(hT16.symm.trans (gsX_X4_worth_1_q0 c17 et20 et21 et22)), hM_v16, hA_f16, hIv16, (show v16 0 = v 0 from hq0_v16), (show v16 1 = v 1 from hq1_v16), (show v16 7 = v 7 from hq7_v16), (show v16 8 = v 8 from hq8_v16), (show v16 9 = v 9 from hq9_v16), (show v16 10 = v 10 from hq10_v16), (show v16 31 = v 31 from hq31_v16), (show v16 32 = v 32 from hq32_v16)⟩ hP hD hS dX4_worth_321 (Nat.le_refl _) (Nat.le_refl _)
        · skip
          refine lv_iload hx hb dX4_worth_133 (lv_at hl 0 rfl) ?_
          refine lv_sipush (v := 300) hx hb dX4_worth_135 rfl ?_
          refine lv_icmp_ge (tgt := 305) hx hb dX4_worth_138 rfl (fun c25 => ?_) (fun c25 => ?_)
          · skip
            refine lv_iconst (v := 0) hx hb dX4_worth_305 rfl ?_
            refine lv_sipush (v := 999) hx hb dX4_worth_306 rfl ?_
            refine lv_aload_n hx hb dX4_worth_309 rfl (lv_at hl 2 rfl) ?_
            refine va_get (D := (dC, dI)) (ci := 4) (v := .ref (x 18)) (C := RX4) (T := TX4) (N := 6) hx hb hts inB_4 hown hE.1 hP 16 rfl rfl 2 (Nat.le_of_ble_eq_true rfl) (hts _ k_180) (fun _ h9 => h9) rfl dX4_worth_310 ?_
            refine lv_iconst (v := 0) hx hb dX4_worth_313 rfl ?_
            refine ldI hx hb hE hP 19 rfl (vp_in_nI (n := 0) (by decide) (by decide)) rfl rfl dX4_worth_314 ?_
            refine lv_topi (fun t26 et26 => ?_)
            refine va_mmin hx hb (by rw [hml]; exact hl.1.symm) hown (hts _ k_840) (hts _ k_643) (hts _ k_119) (hts _ k_644) (Nat.le_of_ble_eq_true rfl) (Nat.le_of_ble_eq_true rfl) (Nat.le_of_ble_eq_true rfl) (Nat.le_of_ble_eq_true rfl) dX4_worth_315 ?_
            refine lv_topi (fun t27 et27 => ?_)
            refine va_mmax hx hb (by rw [hml]; exact hl.1.symm) hown (hts _ k_839) (hts _ k_640) (hts _ k_119) (hts _ k_641) (Nat.le_of_ble_eq_true rfl) (Nat.le_of_ble_eq_true rfl) (Nat.le_of_ble_eq_true rfl) (Nat.le_of_ble_eq_true rfl) dX4_worth_318 ?_
            refine lv_topi (fun t28 et28 => ?_)
            exact ret t28 (v16, f16) _ _ _ _ _ _ rfl ⟨(hT16.symm.trans (gsX_X4_worth_1_q1 c17 c25 et26 et27 et28)), hM_v16, hA_f16, hIv16, (show v16 0 = v 0 from hq0_v16), (show v16 1 = v 1 from hq1_v16), (show v16 7 = v 7 from hq7_v16), (show v16 8 = v 8 from hq8_v16), (show v16 9 = v 9 from hq9_v16), (show v16 10 = v 10 from hq10_v16), (show v16 31 = v 31 from hq31_v16), (show v16 32 = v 32 from hq32_v16)⟩ hP hD hS dX4_worth_321 (Nat.le_refl _) (Nat.le_refl _)
          · skip
            have zc25 : ¬ (300 ≤ l8_16.toInt) := zMn tc_300 rfl c25
            refine lv_aload_n hx hb dX4_worth_141 rfl (lv_at hl 2 rfl) ?_
            refine va_get (D := (dC, dI)) (ci := 4) (v := .ref (x 16)) (C := RX4) (T := TX4) (N := 6) hx hb hts inB_4 hown hE.1 hP 16 rfl rfl 0 (Nat.le_of_ble_eq_true rfl) (hts _ k_178) (fun _ h9 => h9) rfl dX4_worth_142 ?_
            refine lv_iload hx hb dX4_worth_145 (lv_at hl 0 rfl) ?_
            refine ldI hx hb hE hP 17 rfl (vpI (k := 300) rfl (show 0 ≤ l8_16.toInt from om_39 hr8_16) (show l8_16.toInt < 300 from om_89 zc25)) rfl rfl dX4_worth_147 ?_
            refine lv_topi (fun t29 et29 => ?_)
            refine lv_istore (lv' := [(9, .int t29), (8, .int l8_16), (7, .int l7_16), (0, .ref (x 15)), (1, .int p1), (2, .int p2), (3, .int p3), (4, .int p4), (5, .int p5), (6, .int p6)]) hx hb dX4_worth_148 hl (Nat.le_of_ble_eq_true rfl) rfl (fun ls hl => ?_)
            refine lv_iload hx hb dX4_worth_150 (lv_at hl 0 rfl) ?_
            refine lv_iconst (v := 2) hx hb dX4_worth_152 rfl ?_
            refine lv_icmp_eq (tgt := 170) hx hb dX4_worth_153 rfl (fun c30 => ?_) (fun c30 => ?_)
            · skip
              have zc30 : t29.toInt = 2 := zEp rfl tc_2 c30
              refine lv_iload hx hb dX4_worth_170 (lv_at hl 2 rfl) ?_
              refine lv_bipush (v := 30) hx hb dX4_worth_172 rfl ?_
              refine lv_icmp_ge (tgt := 299) hx hb dX4_worth_174 rfl (fun c31 => ?_) (fun c31 => ?_)
              · skip
                have zc31 : 30 ≤ l7_16.toInt := zMp tc_30 rfl c31
                obtain ⟨t32, et32⟩ : ∃ y : Int32, y = l8_16 + 1 := ⟨_, rfl⟩
                have zt32 : t32.toInt = l8_16.toInt + 1 := (congrArg Int32.toInt et32).trans (add_i rfl tc_1 (om_41 hr8_16) (om_91 zc25))
                refine lv_iinc (v := t32) (lv' := [(8, .int t32), (9, .int t29), (7, .int l7_16), (0, .ref (x 15)), (1, .int p1), (2, .int p2), (3, .int p3), (4, .int p4), (5, .int p5), (6, .int p6)]) hx hb dX4_worth_299 hl (k := 1) rfl et32.symm (Nat.le_of_ble_eq_true rfl) rfl (fun ls hl => ?_)
                refine lv_goto (tgt := 124) hx hb dX4_worth_302 rfl ?_
                have rg34 := fb_rng t32
                exact ih16 l7_16 t32 v16 f16 hIv16 hq0_v16 hq1_v16 hq7_v16 hq8_v16 hq9_v16 hq10_v16 hq31_v16 hq32_v16 ((gsX_X4_worth_1_q2 c17 c25 et29 c30 c31 et32).symm.trans hT16) ⟨show (0 : Int) ≤ l7_16.toInt from om_147 zc31, show l7_16.toInt ≤ (30 : Int) from om_148 hr7_16⟩ ⟨show (0 : Int) ≤ t32.toInt from om_43 hr8_16 zt32, show t32.toInt ≤ (2147483647 : Int) from om_44 rg34⟩ hM_v16 hA_f16 (show (2147483647 - t32.toInt).toNat < n16 from om_33 hm16 zt32 rg34) _ _ _ hP hD hS (lv_sub hl [0, 2, 3, 4, 5, 6, 7, 8, 9] rfl)
              · skip
                have zc31 : ¬ (30 ≤ l7_16.toInt) := zMn tc_30 rfl c31
                refine lv_aload_n hx hb dX4_worth_177 rfl (lv_at hl 3 rfl) ?_
                refine va_get (D := (dC, dI)) (ci := 4) (v := .ref (x 18)) (C := RX4) (T := TX4) (N := 6) hx hb hts inB_4 hown hE.1 hP 16 rfl rfl 2 (Nat.le_of_ble_eq_true rfl) (hts _ k_180) (fun _ h9 => h9) rfl dX4_worth_178 ?_
                refine lv_iload hx hb dX4_worth_181 (lv_at hl 2 rfl) ?_
                refine lv_iload hx hb dX4_worth_183 (lv_at hl 0 rfl) ?_
                refine lv_iconst (v := 2) hx hb dX4_worth_185 rfl ?_
                refine lv_icmp_ne (tgt := 199) hx hb dX4_worth_186 rfl (fun c35 => ?_) (fun c35 => ?_)
                · skip
                  have zc35 : ¬ (t29.toInt = 2) := zEn rfl tc_2 c35
                  refine lv_aload_n hx hb dX4_worth_199 rfl (lv_at hl 3 rfl) ?_
                  refine va_get (D := (dC, dI)) (ci := 4) (v := .ref (x 19)) (C := RX4) (T := TX4) (N := 6) hx hb hts inB_4 hown hE.1 hP 16 rfl rfl 3 (Nat.le_of_ble_eq_true rfl) (hts _ k_181) (fun _ h9 => h9) rfl dX4_worth_200 ?_
                  refine lv_iload hx hb dX4_worth_203 (lv_at hl 0 rfl) ?_
                  refine lv_bipush (v := 116) hx hb dX4_worth_205 rfl ?_
                  refine lv_isub hx hb dX4_worth_207 ?_
                  refine lv_topi (fun t36 et36 => ?_)
                  have zt36 : t36.toInt = t29.toInt - 116 := (congrArg Int32.toInt et36).trans (sub_i rfl tc_116 (om_149 zc30) (om_150 zc30))
                  refine ldI hx hb hE hP 20 rfl (vpI (k := 6) rfl (show 0 ≤ t36.toInt from om_151 zc30 zc35) (show t36.toInt < 6 from om_152 zc30 zt36)) rfl rfl dX4_worth_208 ?_
                  refine lv_topi (fun t38 et38 => ?_)
                  refine stI hx hb hE hP hD hS 19 rfl (vpI (k := 30) rfl (show 0 ≤ l7_16.toInt from om_127 hr7_16) (show l7_16.toInt < 30 from om_134 zc31)) rfl dX4_worth_209 (fun H locs hP hD hS => ?_)
                  obtain ⟨f39, ef39, hP, hD⟩ : ∃ fz9, fz9 = upd2 f16 13 (upd (f16 13) l7_16.toNatClampNeg t38) ∧ va_P (dC, dI) vwCl (XW cy x0 x v16 fz9) H ∧ va_D A (XW cy x0 x v16 fz9) := ⟨_, rfl, hP, hD⟩
                  have hA_f39 : KF [13, 14] f39 f := by rw [ef39]; exact KF.up hA_f16 rfl
                  obtain ⟨t40, et40⟩ : ∃ y : Int32, y = l7_16 + 1 := ⟨_, rfl⟩
                  have zt40 : t40.toInt = l7_16.toInt + 1 := (congrArg Int32.toInt et40).trans (add_i rfl tc_1 (om_129 hr7_16) (om_153 zc31))
                  refine lv_iinc (v := t40) (lv' := [(7, .int t40), (9, .int t29), (8, .int l8_16), (0, .ref (x 15)), (1, .int p1), (2, .int p2), (3, .int p3), (4, .int p4), (5, .int p5), (6, .int p6)]) hx hb dX4_worth_210 hl (k := 2) rfl et40.symm (Nat.le_of_ble_eq_true rfl) rfl (fun ls hl => ?_)
                  refine lv_goto (tgt := 299) hx hb dX4_worth_213 rfl ?_
                  obtain ⟨t42, et42⟩ : ∃ y : Int32, y = l8_16 + 1 := ⟨_, rfl⟩
                  have zt42 : t42.toInt = l8_16.toInt + 1 := (congrArg Int32.toInt et42).trans (add_i rfl tc_1 (om_41 hr8_16) (om_91 zc25))
                  refine lv_iinc (v := t42) (lv' := [(8, .int t42), (7, .int t40), (9, .int t29), (0, .ref (x 15)), (1, .int p1), (2, .int p2), (3, .int p3), (4, .int p4), (5, .int p5), (6, .int p6)]) hx hb dX4_worth_299 hl (k := 2) rfl et42.symm (Nat.le_of_ble_eq_true rfl) rfl (fun ls hl => ?_)
                  refine lv_goto (tgt := 124) hx hb dX4_worth_302 rfl ?_
                  have rg44 := fb_rng t42
                  exact ih16 t40 t42 v16 f39 hIv16 hq0_v16 hq1_v16 hq7_v16 hq8_v16 hq9_v16 hq10_v16 hq31_v16 hq32_v16 ((gsX_X4_worth_1_q3 c17 c25 et29 c30 c31 c35 et36 et38 ef39 et40 et42).symm.trans hT16) ⟨show (0 : Int) ≤ t40.toInt from om_132 hr7_16 zt40, show t40.toInt ≤ (30 : Int) from om_154 zc31 zt40⟩ ⟨show (0 : Int) ≤ t42.toInt from om_43 hr8_16 zt42, show t42.toInt ≤ (2147483647 : Int) from om_44 rg44⟩ hM_v16 hA_f39 (show (2147483647 - t42.toInt).toNat < n16 from om_33 hm16 zt42 rg44) _ _ _ hP hD hS (lv_sub hl [0, 1, 3, 4, 5, 6, 7, 8, 9] rfl)
                · skip
                  refine lv_aload_n hx hb dX4_worth_189 rfl (lv_at hl 3 rfl) ?_
                  refine va_get (D := (dC, dI)) (ci := 4) (v := .ref (x 17)) (C := RX4) (T := TX4) (N := 6) hx hb hts inB_4 hown hE.1 hP 16 rfl rfl 1 (Nat.le_of_ble_eq_true rfl) (hts _ k_179) (fun _ h9 => h9) rfl dX4_worth_190 ?_
                  refine lv_iload hx hb dX4_worth_193 (lv_at hl 1 rfl) ?_
                  refine ldI hx hb hE hP 18 rfl (vpI (k := 300) rfl (show 0 ≤ l8_16.toInt from om_39 hr8_16) (show l8_16.toInt < 300 from om_89 zc25)) rfl rfl dX4_worth_195 ?_
                  refine lv_topi (fun t45 et45 => ?_)
                  refine lv_goto (tgt := 209) hx hb dX4_worth_196 rfl ?_
                  refine stI hx hb hE hP hD hS 19 rfl (vpI (k := 30) rfl (show 0 ≤ l7_16.toInt from om_127 hr7_16) (show l7_16.toInt < 30 from om_134 zc31)) rfl dX4_worth_209 (fun H locs hP hD hS => ?_)
                  obtain ⟨f46, ef46, hP, hD⟩ : ∃ fz9, fz9 = upd2 f16 13 (upd (f16 13) l7_16.toNatClampNeg t45) ∧ va_P (dC, dI) vwCl (XW cy x0 x v16 fz9) H ∧ va_D A (XW cy x0 x v16 fz9) := ⟨_, rfl, hP, hD⟩
                  have hA_f46 : KF [13, 14] f46 f := by rw [ef46]; exact KF.up hA_f16 rfl
                  obtain ⟨t47, et47⟩ : ∃ y : Int32, y = l7_16 + 1 := ⟨_, rfl⟩
                  have zt47 : t47.toInt = l7_16.toInt + 1 := (congrArg Int32.toInt et47).trans (add_i rfl tc_1 (om_129 hr7_16) (om_153 zc31))
                  refine lv_iinc (v := t47) (lv' := [(7, .int t47), (9, .int t29), (8, .int l8_16), (0, .ref (x 15)), (1, .int p1), (2, .int p2), (3, .int p3), (4, .int p4), (5, .int p5), (6, .int p6)]) hx hb dX4_worth_210 hl (k := 2) rfl et47.symm (Nat.le_of_ble_eq_true rfl) rfl (fun ls hl => ?_)
                  refine lv_goto (tgt := 299) hx hb dX4_worth_213 rfl ?_
                  obtain ⟨t49, et49⟩ : ∃ y : Int32, y = l8_16 + 1 := ⟨_, rfl⟩
                  have zt49 : t49.toInt = l8_16.toInt + 1 := (congrArg Int32.toInt et49).trans (add_i rfl tc_1 (om_41 hr8_16) (om_91 zc25))
                  refine lv_iinc (v := t49) (lv' := [(8, .int t49), (7, .int t47), (9, .int t29), (0, .ref (x 15)), (1, .int p1), (2, .int p2), (3, .int p3), (4, .int p4), (5, .int p5), (6, .int p6)]) hx hb dX4_worth_299 hl (k := 2) rfl et49.symm (Nat.le_of_ble_eq_true rfl) rfl (fun ls hl => ?_)
                  refine lv_goto (tgt := 124) hx hb dX4_worth_302 rfl ?_
                  have rg51 := fb_rng t49
                  exact ih16 t47 t49 v16 f46 hIv16 hq0_v16 hq1_v16 hq7_v16 hq8_v16 hq9_v16 hq10_v16 hq31_v16 hq32_v16 ((gsX_X4_worth_1_q4 c17 c25 et29 c30 c31 c35 et45 ef46 et47 et49).symm.trans hT16) ⟨show (0 : Int) ≤ t47.toInt from om_132 hr7_16 zt47, show t47.toInt ≤ (30 : Int) from om_154 zc31 zt47⟩ ⟨show (0 : Int) ≤ t49.toInt from om_43 hr8_16 zt49, show t49.toInt ≤ (2147483647 : Int) from om_44 rg51⟩ hM_v16 hA_f46 (show (2147483647 - t49.toInt).toNat < n16 from om_33 hm16 zt49 rg51) _ _ _ hP hD hS (lv_sub hl [0, 1, 3, 4, 5, 6, 7, 8, 9] rfl)
            · skip
              refine lv_iload hx hb dX4_worth_156 (lv_at hl 0 rfl) ?_
              refine lv_bipush (v := 116) hx hb dX4_worth_158 rfl ?_
              refine lv_icmp_lt (tgt := 216) hx hb dX4_worth_160 rfl (fun c52 => ?_) (fun c52 => ?_)
              · skip
                refine lv_iload hx hb dX4_worth_216 (lv_at hl 0 rfl) ?_
                refine lv_bipush (v := 115) hx hb dX4_worth_218 rfl ?_
                refine lv_icmp_ne (tgt := 258) hx hb dX4_worth_220 rfl (fun c53 => ?_) (fun c53 => ?_)
                · skip
                  refine lv_iload hx hb dX4_worth_258 (lv_at hl 2 rfl) ?_
                  refine lv_iconst (v := 2) hx hb dX4_worth_260 rfl ?_
                  refine lv_icmp_lt (tgt := 299) hx hb dX4_worth_261 rfl (fun c54 => ?_) (fun c54 => ?_)
                  · skip
                    have zc54 : l7_16.toInt < 2 := zLp rfl tc_2 c54
                    obtain ⟨t55, et55⟩ : ∃ y : Int32, y = l8_16 + 1 := ⟨_, rfl⟩
                    have zt55 : t55.toInt = l8_16.toInt + 1 := (congrArg Int32.toInt et55).trans (add_i rfl tc_1 (om_41 hr8_16) (om_91 zc25))
                    refine lv_iinc (v := t55) (lv' := [(8, .int t55), (9, .int t29), (7, .int l7_16), (0, .ref (x 15)), (1, .int p1), (2, .int p2), (3, .int p3), (4, .int p4), (5, .int p5), (6, .int p6)]) hx hb dX4_worth_299 hl (k := 1) rfl et55.symm (Nat.le_of_ble_eq_true rfl) rfl (fun ls hl => ?_)
                    refine lv_goto (tgt := 124) hx hb dX4_worth_302 rfl ?_
                    have rg57 := fb_rng t55
                    exact ih16 l7_16 t55 v16 f16 hIv16 hq0_v16 hq1_v16 hq7_v16 hq8_v16 hq9_v16 hq10_v16 hq31_v16 hq32_v16 ((gsX_X4_worth_1_q5 c17 c25 et29 c30 c52 c53 c54 et55).symm.trans hT16) ⟨show (0 : Int) ≤ l7_16.toInt from om_127 hr7_16, show l7_16.toInt ≤ (30 : Int) from om_155 zc54⟩ ⟨show (0 : Int) ≤ t55.toInt from om_43 hr8_16 zt55, show t55.toInt ≤ (2147483647 : Int) from om_44 rg57⟩ hM_v16 hA_f16 (show (2147483647 - t55.toInt).toNat < n16 from om_33 hm16 zt55 rg57) _ _ _ hP hD hS (lv_sub hl [0, 2, 3, 4, 5, 6, 7, 8, 9] rfl)
                  · skip
                    have zc54 : ¬ (l7_16.toInt < 2) := zLn rfl tc_2 c54
                    refine lv_aload_n hx hb dX4_worth_264 rfl (lv_at hl 3 rfl) ?_
                    refine va_get (D := (dC, dI)) (ci := 4) (v := .ref (x 18)) (C := RX4) (T := TX4) (N := 6) hx hb hts inB_4 hown hE.1 hP 16 rfl rfl 2 (Nat.le_of_ble_eq_true rfl) (hts _ k_180) (fun _ h9 => h9) rfl dX4_worth_265 ?_
                    refine lv_iload hx hb dX4_worth_268 (lv_at hl 2 rfl) ?_
                    refine lv_iconst (v := 2) hx hb dX4_worth_270 rfl ?_
                    refine lv_isub hx hb dX4_worth_271 ?_
                    refine lv_topi (fun t58 et58 => ?_)
                    have zt58 : t58.toInt = l7_16.toInt - 2 := (congrArg Int32.toInt et58).trans (sub_i rfl tc_2 (om_156 zc54) (om_157 hr7_16))
                    refine lv_iload hx hb dX4_worth_272 (lv_at hl 0 rfl) ?_
                    refine lv_aload_n hx hb dX4_worth_274 rfl (lv_at hl 3 rfl) ?_
                    refine va_get (D := (dC, dI)) (ci := 4) (v := .ref (x 18)) (C := RX4) (T := TX4) (N := 6) hx hb hts inB_4 hown hE.1 hP 16 rfl rfl 2 (Nat.le_of_ble_eq_true rfl) (hts _ k_180) (fun _ h9 => h9) rfl dX4_worth_275 ?_
                    refine lv_iload hx hb dX4_worth_278 (lv_at hl 2 rfl) ?_
                    refine lv_iconst (v := 2) hx hb dX4_worth_280 rfl ?_
                    refine lv_isub hx hb dX4_worth_281 ?_
                    refine tI (y := t58) et58.symm ?_
                    refine ldI hx hb hE hP 19 rfl (vpI (k := 30) rfl (show 0 ≤ t58.toInt from om_158 zc54 zt58) (show t58.toInt < 30 from om_159 hr7_16 zt58)) rfl rfl dX4_worth_282 ?_
                    refine lv_topi (fun t60 et60 => ?_)
                    refine lv_aload_n hx hb dX4_worth_283 rfl (lv_at hl 3 rfl) ?_
                    refine va_get (D := (dC, dI)) (ci := 4) (v := .ref (x 18)) (C := RX4) (T := TX4) (N := 6) hx hb hts inB_4 hown hE.1 hP 16 rfl rfl 2 (Nat.le_of_ble_eq_true rfl) (hts _ k_180) (fun _ h9 => h9) rfl dX4_worth_284 ?_
                    refine lv_iload hx hb dX4_worth_287 (lv_at hl 2 rfl) ?_
                    refine lv_iconst (v := 1) hx hb dX4_worth_289 rfl ?_
                    refine lv_isub hx hb dX4_worth_290 ?_
                    refine lv_topi (fun t61 et61 => ?_)
                    have zt61 : t61.toInt = l7_16.toInt - 1 := (congrArg Int32.toInt et61).trans (sub_i rfl tc_1 (om_160 zc54) (om_161 hr7_16))
                    refine ldI hx hb hE hP 19 rfl (vpI (k := 30) rfl (show 0 ≤ t61.toInt from om_162 zc54 zt61) (show t61.toInt < 30 from om_163 hr7_16 zt61)) rfl rfl dX4_worth_291 ?_
                    refine lv_topi (fun t62 et62 => ?_)
                    refine cbSi (n := 3) (rest := [.int t58, .ref (x 18)]) hx hb hml hown hts hE hP hD hS hA (sX_X4_joined_1 NF l dC dI cy x0 x t29 t60 t62 v16 f16 hIv16 ) k_841 k_842 k_105 k_843 he_yX4_joined ⟨Nat.le_of_ble_eq_true rfl, Nat.le_of_ble_eq_true rfl⟩ (rfl) hl.1 rfl (Nat.le_of_ble_eq_true rfl) dX4_worth_292 (fun r63 u H locs hw hP hD hS => ?_)
                    have hG64 := hw
                    refine stI hx hb hE hP hD hS 19 rfl (vpI (k := 30) rfl (show 0 ≤ t58.toInt from om_158 zc54 zt58) (show t58.toInt < 30 from om_159 hr7_16 zt58)) rfl dX4_worth_295 (fun H locs hP hD hS => ?_)
                    obtain ⟨f65, ef65, hP, hD⟩ : ∃ fz9, fz9 = upd2 f16 13 (upd (f16 13) t58.toNatClampNeg r63) ∧ va_P (dC, dI) vwCl (XW cy x0 x v16 fz9) H ∧ va_D A (XW cy x0 x v16 fz9) := ⟨_, rfl, hP, hD⟩
                    have hA_f65 : KF [13, 14] f65 f := by rw [ef65]; exact KF.up hA_f16 rfl
                    obtain ⟨t66, et66⟩ : ∃ y : Int32, y = l7_16 + (-1) := ⟨_, rfl⟩
                    have zt66 : t66.toInt = l7_16.toInt + (-1) := (congrArg Int32.toInt et66).trans (add_i rfl tc_m1 (om_164 zc54) (om_165 hr7_16))
                    refine lv_iinc (v := t66) (lv' := [(7, .int t66), (9, .int t29), (8, .int l8_16), (0, .ref (x 15)), (1, .int p1), (2, .int p2), (3, .int p3), (4, .int p4), (5, .int p5), (6, .int p6)]) hx hb dX4_worth_296 hl (k := 2) rfl et66.symm (Nat.le_of_ble_eq_true rfl) rfl (fun ls hl => ?_)
                    obtain ⟨t67, et67⟩ : ∃ y : Int32, y = l8_16 + 1 := ⟨_, rfl⟩
                    have zt67 : t67.toInt = l8_16.toInt + 1 := (congrArg Int32.toInt et67).trans (add_i rfl tc_1 (om_41 hr8_16) (om_91 zc25))
                    refine lv_iinc (v := t67) (lv' := [(8, .int t67), (7, .int t66), (9, .int t29), (0, .ref (x 15)), (1, .int p1), (2, .int p2), (3, .int p3), (4, .int p4), (5, .int p5), (6, .int p6)]) hx hb dX4_worth_299 hl (k := 2) rfl et67.symm (Nat.le_of_ble_eq_true rfl) rfl (fun ls hl => ?_)
                    refine lv_goto (tgt := 124) hx hb dX4_worth_302 rfl ?_
                    have rg69 := fb_rng t67
                    exact ih16 t66 t67 v16 f65 hIv16 hq0_v16 hq1_v16 hq7_v16 hq8_v16 hq9_v16 hq10_v16 hq31_v16 hq32_v16 ((gsX_X4_worth_1_q6 c17 c25 et29 c30 c52 c53 c54 et58 et60 et61 et62 hG64.symm ef65 et66 et67).symm.trans hT16) ⟨show (0 : Int) ≤ t66.toInt from om_166 zc54 zt66, show t66.toInt ≤ (30 : Int) from om_167 hr7_16 zt66⟩ ⟨show (0 : Int) ≤ t67.toInt from om_43 hr8_16 zt67, show t67.toInt ≤ (2147483647 : Int) from om_44 rg69⟩ hM_v16 hA_f65 (show (2147483647 - t67.toInt).toNat < n16 from om_33 hm16 zt67 rg69) _ _ _ hP hD hS (lv_sub hl [0, 1, 3, 4, 5, 6, 7, 8, 9] rfl)
                · skip
                  refine lv_iload hx hb dX4_worth_223 (lv_at hl 2 rfl) ?_
                  refine lv_iconst (v := 1) hx hb dX4_worth_225 rfl ?_
                  refine lv_icmp_lt (tgt := 258) hx hb dX4_worth_226 rfl (fun c70 => ?_) (fun c70 => ?_)
                  · skip
                    have zc70 : l7_16.toInt < 1 := zLp rfl tc_1 c70
                    refine lv_iload hx hb dX4_worth_258 (lv_at hl 2 rfl) ?_
                    refine lv_iconst (v := 2) hx hb dX4_worth_260 rfl ?_
                    refine lv_icmp_lt (tgt := 299) hx hb dX4_worth_261 rfl (fun c71 => ?_) (fun c71 => ?_)
                    · skip
                      obtain ⟨t72, et72⟩ : ∃ y : Int32, y = l8_16 + 1 := ⟨_, rfl⟩
                      have zt72 : t72.toInt = l8_16.toInt + 1 := (congrArg Int32.toInt et72).trans (add_i rfl tc_1 (om_41 hr8_16) (om_91 zc25))
                      refine lv_iinc (v := t72) (lv' := [(8, .int t72), (9, .int t29), (7, .int l7_16), (0, .ref (x 15)), (1, .int p1), (2, .int p2), (3, .int p3), (4, .int p4), (5, .int p5), (6, .int p6)]) hx hb dX4_worth_299 hl (k := 1) rfl et72.symm (Nat.le_of_ble_eq_true rfl) rfl (fun ls hl => ?_)
                      refine lv_goto (tgt := 124) hx hb dX4_worth_302 rfl ?_
                      have rg74 := fb_rng t72
                      exact ih16 l7_16 t72 v16 f16 hIv16 hq0_v16 hq1_v16 hq7_v16 hq8_v16 hq9_v16 hq10_v16 hq31_v16 hq32_v16 ((gsX_X4_worth_1_q7 c17 c25 et29 c30 c52 c53 c70 c71 et72).symm.trans hT16) ⟨show (0 : Int) ≤ l7_16.toInt from om_127 hr7_16, show l7_16.toInt ≤ (30 : Int) from om_168 zc70⟩ ⟨show (0 : Int) ≤ t72.toInt from om_43 hr8_16 zt72, show t72.toInt ≤ (2147483647 : Int) from om_44 rg74⟩ hM_v16 hA_f16 (show (2147483647 - t72.toInt).toNat < n16 from om_33 hm16 zt72 rg74) _ _ _ hP hD hS (lv_sub hl [0, 2, 3, 4, 5, 6, 7, 8, 9] rfl)
                    · skip
                      have zc71 : ¬ (l7_16.toInt < 2) := zLn rfl tc_2 c71
                      refine lv_aload_n hx hb dX4_worth_264 rfl (lv_at hl 3 rfl) ?_
                      refine va_get (D := (dC, dI)) (ci := 4) (v := .ref (x 18)) (C := RX4) (T := TX4) (N := 6) hx hb hts inB_4 hown hE.1 hP 16 rfl rfl 2 (Nat.le_of_ble_eq_true rfl) (hts _ k_180) (fun _ h9 => h9) rfl dX4_worth_265 ?_
                      refine lv_iload hx hb dX4_worth_268 (lv_at hl 2 rfl) ?_
                      refine lv_iconst (v := 2) hx hb dX4_worth_270 rfl ?_
                      refine lv_isub hx hb dX4_worth_271 ?_
                      refine lv_topi (fun t75 et75 => ?_)
                      have zt75 : t75.toInt = l7_16.toInt - 2 := (congrArg Int32.toInt et75).trans (sub_i rfl tc_2 (om_156 zc71) (om_169 zc70))
                      refine lv_iload hx hb dX4_worth_272 (lv_at hl 0 rfl) ?_
                      refine lv_aload_n hx hb dX4_worth_274 rfl (lv_at hl 3 rfl) ?_
                      refine va_get (D := (dC, dI)) (ci := 4) (v := .ref (x 18)) (C := RX4) (T := TX4) (N := 6) hx hb hts inB_4 hown hE.1 hP 16 rfl rfl 2 (Nat.le_of_ble_eq_true rfl) (hts _ k_180) (fun _ h9 => h9) rfl dX4_worth_275 ?_
                      refine lv_iload hx hb dX4_worth_278 (lv_at hl 2 rfl) ?_
                      refine lv_iconst (v := 2) hx hb dX4_worth_280 rfl ?_
                      refine lv_isub hx hb dX4_worth_281 ?_
                      refine tI (y := t75) et75.symm ?_
                      refine ldI hx hb hE hP 19 rfl (vpI (k := 30) rfl (show 0 ≤ t75.toInt from om_170 zc70 zc71) (show t75.toInt < 30 from om_171 zc70 zt75)) rfl rfl dX4_worth_282 ?_
                      refine lv_topi (fun t77 et77 => ?_)
                      refine lv_aload_n hx hb dX4_worth_283 rfl (lv_at hl 3 rfl) ?_
                      refine va_get (D := (dC, dI)) (ci := 4) (v := .ref (x 18)) (C := RX4) (T := TX4) (N := 6) hx hb hts inB_4 hown hE.1 hP 16 rfl rfl 2 (Nat.le_of_ble_eq_true rfl) (hts _ k_180) (fun _ h9 => h9) rfl dX4_worth_284 ?_
                      refine lv_iload hx hb dX4_worth_287 (lv_at hl 2 rfl) ?_
                      refine lv_iconst (v := 1) hx hb dX4_worth_289 rfl ?_
                      refine lv_isub hx hb dX4_worth_290 ?_
                      refine lv_topi (fun t78 et78 => ?_)
                      have zt78 : t78.toInt = l7_16.toInt - 1 := (congrArg Int32.toInt et78).trans (sub_i rfl tc_1 (om_160 zc71) (om_172 zc70))
                      refine ldI hx hb hE hP 19 rfl (vpI (k := 30) rfl (show 0 ≤ t78.toInt from om_162 zc71 zt78) (show t78.toInt < 30 from om_173 zc70 zt78)) rfl rfl dX4_worth_291 ?_
                      refine lv_topi (fun t79 et79 => ?_)
                      refine cbSi (n := 3) (rest := [.int t75, .ref (x 18)]) hx hb hml hown hts hE hP hD hS hA (sX_X4_joined_1 NF l dC dI cy x0 x t29 t77 t79 v16 f16 hIv16 ) k_841 k_842 k_105 k_843 he_yX4_joined ⟨Nat.le_of_ble_eq_true rfl, Nat.le_of_ble_eq_true rfl⟩ (rfl) hl.1 rfl (Nat.le_of_ble_eq_true rfl) dX4_worth_292 (fun r80 u H locs hw hP hD hS => ?_)
                      have hG81 := hw
                      refine stI hx hb hE hP hD hS 19 rfl (vpI (k := 30) rfl (show 0 ≤ t75.toInt from om_170 zc70 zc71) (show t75.toInt < 30 from om_171 zc70 zt75)) rfl dX4_worth_295 (fun H locs hP hD hS => ?_)
                      obtain ⟨f82, ef82, hP, hD⟩ : ∃ fz9, fz9 = upd2 f16 13 (upd (f16 13) t75.toNatClampNeg r80) ∧ va_P (dC, dI) vwCl (XW cy x0 x v16 fz9) H ∧ va_D A (XW cy x0 x v16 fz9) := ⟨_, rfl, hP, hD⟩
                      have hA_f82 : KF [13, 14] f82 f := by rw [ef82]; exact KF.up hA_f16 rfl
                      obtain ⟨t83, et83⟩ : ∃ y : Int32, y = l7_16 + (-1) := ⟨_, rfl⟩
                      have zt83 : t83.toInt = l7_16.toInt + (-1) := (congrArg Int32.toInt et83).trans (add_i rfl tc_m1 (om_164 zc71) (om_174 zc70))
                      refine lv_iinc (v := t83) (lv' := [(7, .int t83), (9, .int t29), (8, .int l8_16), (0, .ref (x 15)), (1, .int p1), (2, .int p2), (3, .int p3), (4, .int p4), (5, .int p5), (6, .int p6)]) hx hb dX4_worth_296 hl (k := 2) rfl et83.symm (Nat.le_of_ble_eq_true rfl) rfl (fun ls hl => ?_)
                      obtain ⟨t84, et84⟩ : ∃ y : Int32, y = l8_16 + 1 := ⟨_, rfl⟩
                      have zt84 : t84.toInt = l8_16.toInt + 1 := (congrArg Int32.toInt et84).trans (add_i rfl tc_1 (om_41 hr8_16) (om_91 zc25))
                      refine lv_iinc (v := t84) (lv' := [(8, .int t84), (7, .int t83), (9, .int t29), (0, .ref (x 15)), (1, .int p1), (2, .int p2), (3, .int p3), (4, .int p4), (5, .int p5), (6, .int p6)]) hx hb dX4_worth_299 hl (k := 2) rfl et84.symm (Nat.le_of_ble_eq_true rfl) rfl (fun ls hl => ?_)
                      refine lv_goto (tgt := 124) hx hb dX4_worth_302 rfl ?_
                      have rg86 := fb_rng t84
                      exact ih16 t83 t84 v16 f82 hIv16 hq0_v16 hq1_v16 hq7_v16 hq8_v16 hq9_v16 hq10_v16 hq31_v16 hq32_v16 ((gsX_X4_worth_1_q8 c17 c25 et29 c30 c52 c53 c70 c71 et75 et77 et78 et79 hG81.symm ef82 et83 et84).symm.trans hT16) ⟨show (0 : Int) ≤ t83.toInt from om_166 zc71 zt83, show t83.toInt ≤ (30 : Int) from om_175 zc70 zt83⟩ ⟨show (0 : Int) ≤ t84.toInt from om_43 hr8_16 zt84, show t84.toInt ≤ (2147483647 : Int) from om_44 rg86⟩ hM_v16 hA_f82 (show (2147483647 - t84.toInt).toNat < n16 from om_33 hm16 zt84 rg86) _ _ _ hP hD hS (lv_sub hl [0, 1, 3, 4, 5, 6, 7, 8, 9] rfl)
                  · skip
                    have zc70 : ¬ (l7_16.toInt < 1) := zLn rfl tc_1 c70
                    refine lv_aload_n hx hb dX4_worth_229 rfl (lv_at hl 3 rfl) ?_
                    refine va_get (D := (dC, dI)) (ci := 4) (v := .ref (x 18)) (C := RX4) (T := TX4) (N := 6) hx hb hts inB_4 hown hE.1 hP 16 rfl rfl 2 (Nat.le_of_ble_eq_true rfl) (hts _ k_180) (fun _ h9 => h9) rfl dX4_worth_230 ?_
                    refine lv_iload hx hb dX4_worth_233 (lv_at hl 2 rfl) ?_
                    refine lv_iconst (v := 1) hx hb dX4_worth_235 rfl ?_
                    refine lv_isub hx hb dX4_worth_236 ?_
                    refine lv_topi (fun t87 et87 => ?_)
                    have zt87 : t87.toInt = l7_16.toInt - 1 := (congrArg Int32.toInt et87).trans (sub_i rfl tc_1 (om_176 zc70) (om_161 hr7_16))
                    refine lv_aload_n hx hb dX4_worth_237 rfl (lv_at hl 3 rfl) ?_
                    refine va_get (D := (dC, dI)) (ci := 4) (v := .ref (x 18)) (C := RX4) (T := TX4) (N := 6) hx hb hts inB_4 hown hE.1 hP 16 rfl rfl 2 (Nat.le_of_ble_eq_true rfl) (hts _ k_180) (fun _ h9 => h9) rfl dX4_worth_238 ?_
                    refine lv_iload hx hb dX4_worth_241 (lv_at hl 2 rfl) ?_
                    refine lv_iconst (v := 1) hx hb dX4_worth_243 rfl ?_
                    refine lv_isub hx hb dX4_worth_244 ?_
                    refine tI (y := t87) et87.symm ?_
                    refine ldI hx hb hE hP 19 rfl (vpI (k := 30) rfl (show 0 ≤ t87.toInt from om_177 zc70 zt87) (show t87.toInt < 30 from om_163 hr7_16 zt87)) rfl rfl dX4_worth_245 ?_
                    refine lv_topi (fun t89 et89 => ?_)
                    refine lv_if_ne (tgt := 253) hx hb dX4_worth_246 rfl (fun c90 => ?_) (fun c90 => ?_)
                    · skip
                      refine lv_iconst (v := 0) hx hb dX4_worth_253 rfl ?_
                      refine stI hx hb hE hP hD hS 19 rfl (vpI (k := 30) rfl (show 0 ≤ t87.toInt from om_177 zc70 zt87) (show t87.toInt < 30 from om_163 hr7_16 zt87)) rfl dX4_worth_254 (fun H locs hP hD hS => ?_)
                      obtain ⟨f91, ef91, hP, hD⟩ : ∃ fz9, fz9 = upd2 f16 13 (upd (f16 13) t87.toNatClampNeg 0) ∧ va_P (dC, dI) vwCl (XW cy x0 x v16 fz9) H ∧ va_D A (XW cy x0 x v16 fz9) := ⟨_, rfl, hP, hD⟩
                      have hA_f91 : KF [13, 14] f91 f := by rw [ef91]; exact KF.up hA_f16 rfl
                      refine lv_goto (tgt := 299) hx hb dX4_worth_255 rfl ?_
                      obtain ⟨t92, et92⟩ : ∃ y : Int32, y = l8_16 + 1 := ⟨_, rfl⟩
                      have zt92 : t92.toInt = l8_16.toInt + 1 := (congrArg Int32.toInt et92).trans (add_i rfl tc_1 (om_41 hr8_16) (om_91 zc25))
                      refine lv_iinc (v := t92) (lv' := [(8, .int t92), (9, .int t29), (7, .int l7_16), (0, .ref (x 15)), (1, .int p1), (2, .int p2), (3, .int p3), (4, .int p4), (5, .int p5), (6, .int p6)]) hx hb dX4_worth_299 hl (k := 1) rfl et92.symm (Nat.le_of_ble_eq_true rfl) rfl (fun ls hl => ?_)
                      refine lv_goto (tgt := 124) hx hb dX4_worth_302 rfl ?_
                      have rg93 := fb_rng t92
                      exact ih16 l7_16 t92 v16 f91 hIv16 hq0_v16 hq1_v16 hq7_v16 hq8_v16 hq9_v16 hq10_v16 hq31_v16 hq32_v16 ((gsX_X4_worth_1_q9 c17 c25 et29 c30 c52 c53 c70 et87 et89 c90 ef91 et92).symm.trans hT16) ⟨show (0 : Int) ≤ l7_16.toInt from om_178 zc70, show l7_16.toInt ≤ (30 : Int) from om_148 hr7_16⟩ ⟨show (0 : Int) ≤ t92.toInt from om_43 hr8_16 zt92, show t92.toInt ≤ (2147483647 : Int) from om_44 rg93⟩ hM_v16 hA_f91 (show (2147483647 - t92.toInt).toNat < n16 from om_33 hm16 zt92 rg93) _ _ _ hP hD hS (lv_sub hl [0, 2, 3, 4, 5, 6, 7, 8, 9] rfl)
                    · skip
                      refine lv_iconst (v := 1) hx hb dX4_worth_249 rfl ?_
                      refine lv_goto (tgt := 254) hx hb dX4_worth_250 rfl ?_
                      refine stI hx hb hE hP hD hS 19 rfl (vpI (k := 30) rfl (show 0 ≤ t87.toInt from om_177 zc70 zt87) (show t87.toInt < 30 from om_163 hr7_16 zt87)) rfl dX4_worth_254 (fun H locs hP hD hS => ?_)
                      obtain ⟨f94, ef94, hP, hD⟩ : ∃ fz9, fz9 = upd2 f16 13 (upd (f16 13) t87.toNatClampNeg 1) ∧ va_P (dC, dI) vwCl (XW cy x0 x v16 fz9) H ∧ va_D A (XW cy x0 x v16 fz9) := ⟨_, rfl, hP, hD⟩
                      have hA_f94 : KF [13, 14] f94 f := by rw [ef94]; exact KF.up hA_f16 rfl
                      refine lv_goto (tgt := 299) hx hb dX4_worth_255 rfl ?_
                      obtain ⟨t95, et95⟩ : ∃ y : Int32, y = l8_16 + 1 := ⟨_, rfl⟩
                      have zt95 : t95.toInt = l8_16.toInt + 1 := (congrArg Int32.toInt et95).trans (add_i rfl tc_1 (om_41 hr8_16) (om_91 zc25))
                      refine lv_iinc (v := t95) (lv' := [(8, .int t95), (9, .int t29), (7, .int l7_16), (0, .ref (x 15)), (1, .int p1), (2, .int p2), (3, .int p3), (4, .int p4), (5, .int p5), (6, .int p6)]) hx hb dX4_worth_299 hl (k := 1) rfl et95.symm (Nat.le_of_ble_eq_true rfl) rfl (fun ls hl => ?_)
                      refine lv_goto (tgt := 124) hx hb dX4_worth_302 rfl ?_
                      have rg96 := fb_rng t95
                      exact ih16 l7_16 t95 v16 f94 hIv16 hq0_v16 hq1_v16 hq7_v16 hq8_v16 hq9_v16 hq10_v16 hq31_v16 hq32_v16 ((gsX_X4_worth_1_q10 c17 c25 et29 c30 c52 c53 c70 et87 et89 c90 ef94 et95).symm.trans hT16) ⟨show (0 : Int) ≤ l7_16.toInt from om_178 zc70, show l7_16.toInt ≤ (30 : Int) from om_148 hr7_16⟩ ⟨show (0 : Int) ≤ t95.toInt from om_43 hr8_16 zt95, show t95.toInt ≤ (2147483647 : Int) from om_44 rg96⟩ hM_v16 hA_f94 (show (2147483647 - t95.toInt).toNat < n16 from om_33 hm16 zt95 rg96) _ _ _ hP hD hS (lv_sub hl [0, 2, 3, 4, 5, 6, 7, 8, 9] rfl)
              · skip
                have zc52 : ¬ (t29.toInt < 116) := zLn rfl tc_116 c52
                refine lv_iload hx hb dX4_worth_163 (lv_at hl 0 rfl) ?_
                refine lv_bipush (v := 122) hx hb dX4_worth_165 rfl ?_
                refine lv_icmp_ge (tgt := 216) hx hb dX4_worth_167 rfl (fun c97 => ?_) (fun c97 => ?_)
                · skip
                  refine lv_iload hx hb dX4_worth_216 (lv_at hl 0 rfl) ?_
                  refine lv_bipush (v := 115) hx hb dX4_worth_218 rfl ?_
                  refine lv_icmp_ne (tgt := 258) hx hb dX4_worth_220 rfl (fun c98 => ?_) (fun c98 => ?_)
                  · skip
                    refine lv_iload hx hb dX4_worth_258 (lv_at hl 2 rfl) ?_
                    refine lv_iconst (v := 2) hx hb dX4_worth_260 rfl ?_
                    refine lv_icmp_lt (tgt := 299) hx hb dX4_worth_261 rfl (fun c99 => ?_) (fun c99 => ?_)
                    · skip
                      have zc99 : l7_16.toInt < 2 := zLp rfl tc_2 c99
                      obtain ⟨t100, et100⟩ : ∃ y : Int32, y = l8_16 + 1 := ⟨_, rfl⟩
                      have zt100 : t100.toInt = l8_16.toInt + 1 := (congrArg Int32.toInt et100).trans (add_i rfl tc_1 (om_41 hr8_16) (om_91 zc25))
                      refine lv_iinc (v := t100) (lv' := [(8, .int t100), (9, .int t29), (7, .int l7_16), (0, .ref (x 15)), (1, .int p1), (2, .int p2), (3, .int p3), (4, .int p4), (5, .int p5), (6, .int p6)]) hx hb dX4_worth_299 hl (k := 1) rfl et100.symm (Nat.le_of_ble_eq_true rfl) rfl (fun ls hl => ?_)
                      refine lv_goto (tgt := 124) hx hb dX4_worth_302 rfl ?_
                      have rg102 := fb_rng t100
                      exact ih16 l7_16 t100 v16 f16 hIv16 hq0_v16 hq1_v16 hq7_v16 hq8_v16 hq9_v16 hq10_v16 hq31_v16 hq32_v16 ((gsX_X4_worth_1_q11 c17 c25 et29 c30 c52 c97 c98 c99 et100).symm.trans hT16) ⟨show (0 : Int) ≤ l7_16.toInt from om_127 hr7_16, show l7_16.toInt ≤ (30 : Int) from om_155 zc99⟩ ⟨show (0 : Int) ≤ t100.toInt from om_43 hr8_16 zt100, show t100.toInt ≤ (2147483647 : Int) from om_44 rg102⟩ hM_v16 hA_f16 (show (2147483647 - t100.toInt).toNat < n16 from om_33 hm16 zt100 rg102) _ _ _ hP hD hS (lv_sub hl [0, 2, 3, 4, 5, 6, 7, 8, 9] rfl)
                    · skip
                      have zc99 : ¬ (l7_16.toInt < 2) := zLn rfl tc_2 c99
                      refine lv_aload_n hx hb dX4_worth_264 rfl (lv_at hl 3 rfl) ?_
                      refine va_get (D := (dC, dI)) (ci := 4) (v := .ref (x 18)) (C := RX4) (T := TX4) (N := 6) hx hb hts inB_4 hown hE.1 hP 16 rfl rfl 2 (Nat.le_of_ble_eq_true rfl) (hts _ k_180) (fun _ h9 => h9) rfl dX4_worth_265 ?_
                      refine lv_iload hx hb dX4_worth_268 (lv_at hl 2 rfl) ?_
                      refine lv_iconst (v := 2) hx hb dX4_worth_270 rfl ?_
                      refine lv_isub hx hb dX4_worth_271 ?_
                      refine lv_topi (fun t103 et103 => ?_)
                      have zt103 : t103.toInt = l7_16.toInt - 2 := (congrArg Int32.toInt et103).trans (sub_i rfl tc_2 (om_156 zc99) (om_157 hr7_16))
                      refine lv_iload hx hb dX4_worth_272 (lv_at hl 0 rfl) ?_
                      refine lv_aload_n hx hb dX4_worth_274 rfl (lv_at hl 3 rfl) ?_
                      refine va_get (D := (dC, dI)) (ci := 4) (v := .ref (x 18)) (C := RX4) (T := TX4) (N := 6) hx hb hts inB_4 hown hE.1 hP 16 rfl rfl 2 (Nat.le_of_ble_eq_true rfl) (hts _ k_180) (fun _ h9 => h9) rfl dX4_worth_275 ?_
                      refine lv_iload hx hb dX4_worth_278 (lv_at hl 2 rfl) ?_
                      refine lv_iconst (v := 2) hx hb dX4_worth_280 rfl ?_
                      refine lv_isub hx hb dX4_worth_281 ?_
                      refine tI (y := t103) et103.symm ?_
                      refine ldI hx hb hE hP 19 rfl (vpI (k := 30) rfl (show 0 ≤ t103.toInt from om_158 zc99 zt103) (show t103.toInt < 30 from om_159 hr7_16 zt103)) rfl rfl dX4_worth_282 ?_
                      refine lv_topi (fun t105 et105 => ?_)
                      refine lv_aload_n hx hb dX4_worth_283 rfl (lv_at hl 3 rfl) ?_
                      refine va_get (D := (dC, dI)) (ci := 4) (v := .ref (x 18)) (C := RX4) (T := TX4) (N := 6) hx hb hts inB_4 hown hE.1 hP 16 rfl rfl 2 (Nat.le_of_ble_eq_true rfl) (hts _ k_180) (fun _ h9 => h9) rfl dX4_worth_284 ?_
                      refine lv_iload hx hb dX4_worth_287 (lv_at hl 2 rfl) ?_
                      refine lv_iconst (v := 1) hx hb dX4_worth_289 rfl ?_
                      refine lv_isub hx hb dX4_worth_290 ?_
                      refine lv_topi (fun t106 et106 => ?_)
                      have zt106 : t106.toInt = l7_16.toInt - 1 := (congrArg Int32.toInt et106).trans (sub_i rfl tc_1 (om_160 zc99) (om_161 hr7_16))
                      refine ldI hx hb hE hP 19 rfl (vpI (k := 30) rfl (show 0 ≤ t106.toInt from om_162 zc99 zt106) (show t106.toInt < 30 from om_163 hr7_16 zt106)) rfl rfl dX4_worth_291 ?_
                      refine lv_topi (fun t107 et107 => ?_)
                      refine cbSi (n := 3) (rest := [.int t103, .ref (x 18)]) hx hb hml hown hts hE hP hD hS hA (sX_X4_joined_1 NF l dC dI cy x0 x t29 t105 t107 v16 f16 hIv16 ) k_841 k_842 k_105 k_843 he_yX4_joined ⟨Nat.le_of_ble_eq_true rfl, Nat.le_of_ble_eq_true rfl⟩ (rfl) hl.1 rfl (Nat.le_of_ble_eq_true rfl) dX4_worth_292 (fun r108 u H locs hw hP hD hS => ?_)
                      have hG109 := hw
                      refine stI hx hb hE hP hD hS 19 rfl (vpI (k := 30) rfl (show 0 ≤ t103.toInt from om_158 zc99 zt103) (show t103.toInt < 30 from om_159 hr7_16 zt103)) rfl dX4_worth_295 (fun H locs hP hD hS => ?_)
                      obtain ⟨f110, ef110, hP, hD⟩ : ∃ fz9, fz9 = upd2 f16 13 (upd (f16 13) t103.toNatClampNeg r108) ∧ va_P (dC, dI) vwCl (XW cy x0 x v16 fz9) H ∧ va_D A (XW cy x0 x v16 fz9) := ⟨_, rfl, hP, hD⟩
                      have hA_f110 : KF [13, 14] f110 f := by rw [ef110]; exact KF.up hA_f16 rfl
                      obtain ⟨t111, et111⟩ : ∃ y : Int32, y = l7_16 + (-1) := ⟨_, rfl⟩
                      have zt111 : t111.toInt = l7_16.toInt + (-1) := (congrArg Int32.toInt et111).trans (add_i rfl tc_m1 (om_164 zc99) (om_165 hr7_16))
                      refine lv_iinc (v := t111) (lv' := [(7, .int t111), (9, .int t29), (8, .int l8_16), (0, .ref (x 15)), (1, .int p1), (2, .int p2), (3, .int p3), (4, .int p4), (5, .int p5), (6, .int p6)]) hx hb dX4_worth_296 hl (k := 2) rfl et111.symm (Nat.le_of_ble_eq_true rfl) rfl (fun ls hl => ?_)
                      obtain ⟨t112, et112⟩ : ∃ y : Int32, y = l8_16 + 1 := ⟨_, rfl⟩
                      have zt112 : t112.toInt = l8_16.toInt + 1 := (congrArg Int32.toInt et112).trans (add_i rfl tc_1 (om_41 hr8_16) (om_91 zc25))
                      refine lv_iinc (v := t112) (lv' := [(8, .int t112), (7, .int t111), (9, .int t29), (0, .ref (x 15)), (1, .int p1), (2, .int p2), (3, .int p3), (4, .int p4), (5, .int p5), (6, .int p6)]) hx hb dX4_worth_299 hl (k := 2) rfl et112.symm (Nat.le_of_ble_eq_true rfl) rfl (fun ls hl => ?_)
                      refine lv_goto (tgt := 124) hx hb dX4_worth_302 rfl ?_
                      have rg114 := fb_rng t112
                      exact ih16 t111 t112 v16 f110 hIv16 hq0_v16 hq1_v16 hq7_v16 hq8_v16 hq9_v16 hq10_v16 hq31_v16 hq32_v16 ((gsX_X4_worth_1_q12 c17 c25 et29 c30 c52 c97 c98 c99 et103 et105 et106 et107 hG109.symm ef110 et111 et112).symm.trans hT16) ⟨show (0 : Int) ≤ t111.toInt from om_166 zc99 zt111, show t111.toInt ≤ (30 : Int) from om_167 hr7_16 zt111⟩ ⟨show (0 : Int) ≤ t112.toInt from om_43 hr8_16 zt112, show t112.toInt ≤ (2147483647 : Int) from om_44 rg114⟩ hM_v16 hA_f110 (show (2147483647 - t112.toInt).toNat < n16 from om_33 hm16 zt112 rg114) _ _ _ hP hD hS (lv_sub hl [0, 1, 3, 4, 5, 6, 7, 8, 9] rfl)
                  · skip
                    refine lv_iload hx hb dX4_worth_223 (lv_at hl 2 rfl) ?_
                    refine lv_iconst (v := 1) hx hb dX4_worth_225 rfl ?_
                    refine lv_icmp_lt (tgt := 258) hx hb dX4_worth_226 rfl (fun c115 => ?_) (fun c115 => ?_)
                    · skip
                      have zc115 : l7_16.toInt < 1 := zLp rfl tc_1 c115
                      refine lv_iload hx hb dX4_worth_258 (lv_at hl 2 rfl) ?_
                      refine lv_iconst (v := 2) hx hb dX4_worth_260 rfl ?_
                      refine lv_icmp_lt (tgt := 299) hx hb dX4_worth_261 rfl (fun c116 => ?_) (fun c116 => ?_)
                      · skip
                        obtain ⟨t117, et117⟩ : ∃ y : Int32, y = l8_16 + 1 := ⟨_, rfl⟩
                        have zt117 : t117.toInt = l8_16.toInt + 1 := (congrArg Int32.toInt et117).trans (add_i rfl tc_1 (om_41 hr8_16) (om_91 zc25))
                        refine lv_iinc (v := t117) (lv' := [(8, .int t117), (9, .int t29), (7, .int l7_16), (0, .ref (x 15)), (1, .int p1), (2, .int p2), (3, .int p3), (4, .int p4), (5, .int p5), (6, .int p6)]) hx hb dX4_worth_299 hl (k := 1) rfl et117.symm (Nat.le_of_ble_eq_true rfl) rfl (fun ls hl => ?_)
                        refine lv_goto (tgt := 124) hx hb dX4_worth_302 rfl ?_
                        have rg119 := fb_rng t117
                        exact ih16 l7_16 t117 v16 f16 hIv16 hq0_v16 hq1_v16 hq7_v16 hq8_v16 hq9_v16 hq10_v16 hq31_v16 hq32_v16 ((gsX_X4_worth_1_q13 c17 c25 et29 c30 c52 c97 c98 c115 c116 et117).symm.trans hT16) ⟨show (0 : Int) ≤ l7_16.toInt from om_127 hr7_16, show l7_16.toInt ≤ (30 : Int) from om_168 zc115⟩ ⟨show (0 : Int) ≤ t117.toInt from om_43 hr8_16 zt117, show t117.toInt ≤ (2147483647 : Int) from om_44 rg119⟩ hM_v16 hA_f16 (show (2147483647 - t117.toInt).toNat < n16 from om_33 hm16 zt117 rg119) _ _ _ hP hD hS (lv_sub hl [0, 2, 3, 4, 5, 6, 7, 8, 9] rfl)
                      · skip
                        have zc116 : ¬ (l7_16.toInt < 2) := zLn rfl tc_2 c116
                        refine lv_aload_n hx hb dX4_worth_264 rfl (lv_at hl 3 rfl) ?_
                        refine va_get (D := (dC, dI)) (ci := 4) (v := .ref (x 18)) (C := RX4) (T := TX4) (N := 6) hx hb hts inB_4 hown hE.1 hP 16 rfl rfl 2 (Nat.le_of_ble_eq_true rfl) (hts _ k_180) (fun _ h9 => h9) rfl dX4_worth_265 ?_
                        refine lv_iload hx hb dX4_worth_268 (lv_at hl 2 rfl) ?_
                        refine lv_iconst (v := 2) hx hb dX4_worth_270 rfl ?_
                        refine lv_isub hx hb dX4_worth_271 ?_
                        refine lv_topi (fun t120 et120 => ?_)
                        have zt120 : t120.toInt = l7_16.toInt - 2 := (congrArg Int32.toInt et120).trans (sub_i rfl tc_2 (om_156 zc116) (om_169 zc115))
                        refine lv_iload hx hb dX4_worth_272 (lv_at hl 0 rfl) ?_
                        refine lv_aload_n hx hb dX4_worth_274 rfl (lv_at hl 3 rfl) ?_
                        refine va_get (D := (dC, dI)) (ci := 4) (v := .ref (x 18)) (C := RX4) (T := TX4) (N := 6) hx hb hts inB_4 hown hE.1 hP 16 rfl rfl 2 (Nat.le_of_ble_eq_true rfl) (hts _ k_180) (fun _ h9 => h9) rfl dX4_worth_275 ?_
                        refine lv_iload hx hb dX4_worth_278 (lv_at hl 2 rfl) ?_
                        refine lv_iconst (v := 2) hx hb dX4_worth_280 rfl ?_
                        refine lv_isub hx hb dX4_worth_281 ?_
                        refine tI (y := t120) et120.symm ?_
                        refine ldI hx hb hE hP 19 rfl (vpI (k := 30) rfl (show 0 ≤ t120.toInt from om_170 zc115 zc116) (show t120.toInt < 30 from om_171 zc115 zt120)) rfl rfl dX4_worth_282 ?_
                        refine lv_topi (fun t122 et122 => ?_)
                        refine lv_aload_n hx hb dX4_worth_283 rfl (lv_at hl 3 rfl) ?_
                        refine va_get (D := (dC, dI)) (ci := 4) (v := .ref (x 18)) (C := RX4) (T := TX4) (N := 6) hx hb hts inB_4 hown hE.1 hP 16 rfl rfl 2 (Nat.le_of_ble_eq_true rfl) (hts _ k_180) (fun _ h9 => h9) rfl dX4_worth_284 ?_
                        refine lv_iload hx hb dX4_worth_287 (lv_at hl 2 rfl) ?_
                        refine lv_iconst (v := 1) hx hb dX4_worth_289 rfl ?_
                        refine lv_isub hx hb dX4_worth_290 ?_
                        refine lv_topi (fun t123 et123 => ?_)
                        have zt123 : t123.toInt = l7_16.toInt - 1 := (congrArg Int32.toInt et123).trans (sub_i rfl tc_1 (om_160 zc116) (om_172 zc115))
                        refine ldI hx hb hE hP 19 rfl (vpI (k := 30) rfl (show 0 ≤ t123.toInt from om_162 zc116 zt123) (show t123.toInt < 30 from om_173 zc115 zt123)) rfl rfl dX4_worth_291 ?_
                        refine lv_topi (fun t124 et124 => ?_)
                        refine cbSi (n := 3) (rest := [.int t120, .ref (x 18)]) hx hb hml hown hts hE hP hD hS hA (sX_X4_joined_1 NF l dC dI cy x0 x t29 t122 t124 v16 f16 hIv16 ) k_841 k_842 k_105 k_843 he_yX4_joined ⟨Nat.le_of_ble_eq_true rfl, Nat.le_of_ble_eq_true rfl⟩ (rfl) hl.1 rfl (Nat.le_of_ble_eq_true rfl) dX4_worth_292 (fun r125 u H locs hw hP hD hS => ?_)
                        have hG126 := hw
                        refine stI hx hb hE hP hD hS 19 rfl (vpI (k := 30) rfl (show 0 ≤ t120.toInt from om_170 zc115 zc116) (show t120.toInt < 30 from om_171 zc115 zt120)) rfl dX4_worth_295 (fun H locs hP hD hS => ?_)
                        obtain ⟨f127, ef127, hP, hD⟩ : ∃ fz9, fz9 = upd2 f16 13 (upd (f16 13) t120.toNatClampNeg r125) ∧ va_P (dC, dI) vwCl (XW cy x0 x v16 fz9) H ∧ va_D A (XW cy x0 x v16 fz9) := ⟨_, rfl, hP, hD⟩
                        have hA_f127 : KF [13, 14] f127 f := by rw [ef127]; exact KF.up hA_f16 rfl
                        obtain ⟨t128, et128⟩ : ∃ y : Int32, y = l7_16 + (-1) := ⟨_, rfl⟩
                        have zt128 : t128.toInt = l7_16.toInt + (-1) := (congrArg Int32.toInt et128).trans (add_i rfl tc_m1 (om_164 zc116) (om_174 zc115))
                        refine lv_iinc (v := t128) (lv' := [(7, .int t128), (9, .int t29), (8, .int l8_16), (0, .ref (x 15)), (1, .int p1), (2, .int p2), (3, .int p3), (4, .int p4), (5, .int p5), (6, .int p6)]) hx hb dX4_worth_296 hl (k := 2) rfl et128.symm (Nat.le_of_ble_eq_true rfl) rfl (fun ls hl => ?_)
                        obtain ⟨t129, et129⟩ : ∃ y : Int32, y = l8_16 + 1 := ⟨_, rfl⟩
                        have zt129 : t129.toInt = l8_16.toInt + 1 := (congrArg Int32.toInt et129).trans (add_i rfl tc_1 (om_41 hr8_16) (om_91 zc25))
                        refine lv_iinc (v := t129) (lv' := [(8, .int t129), (7, .int t128), (9, .int t29), (0, .ref (x 15)), (1, .int p1), (2, .int p2), (3, .int p3), (4, .int p4), (5, .int p5), (6, .int p6)]) hx hb dX4_worth_299 hl (k := 2) rfl et129.symm (Nat.le_of_ble_eq_true rfl) rfl (fun ls hl => ?_)
                        refine lv_goto (tgt := 124) hx hb dX4_worth_302 rfl ?_
                        have rg131 := fb_rng t129
                        exact ih16 t128 t129 v16 f127 hIv16 hq0_v16 hq1_v16 hq7_v16 hq8_v16 hq9_v16 hq10_v16 hq31_v16 hq32_v16 ((gsX_X4_worth_1_q14 c17 c25 et29 c30 c52 c97 c98 c115 c116 et120 et122 et123 et124 hG126.symm ef127 et128 et129).symm.trans hT16) ⟨show (0 : Int) ≤ t128.toInt from om_166 zc116 zt128, show t128.toInt ≤ (30 : Int) from om_175 zc115 zt128⟩ ⟨show (0 : Int) ≤ t129.toInt from om_43 hr8_16 zt129, show t129.toInt ≤ (2147483647 : Int) from om_44 rg131⟩ hM_v16 hA_f127 (show (2147483647 - t129.toInt).toNat < n16 from om_33 hm16 zt129 rg131) _ _ _ hP hD hS (lv_sub hl [0, 1, 3, 4, 5, 6, 7, 8, 9] rfl)
                    · skip
                      have zc115 : ¬ (l7_16.toInt < 1) := zLn rfl tc_1 c115
                      refine lv_aload_n hx hb dX4_worth_229 rfl (lv_at hl 3 rfl) ?_
                      refine va_get (D := (dC, dI)) (ci := 4) (v := .ref (x 18)) (C := RX4) (T := TX4) (N := 6) hx hb hts inB_4 hown hE.1 hP 16 rfl rfl 2 (Nat.le_of_ble_eq_true rfl) (hts _ k_180) (fun _ h9 => h9) rfl dX4_worth_230 ?_
                      refine lv_iload hx hb dX4_worth_233 (lv_at hl 2 rfl) ?_
                      refine lv_iconst (v := 1) hx hb dX4_worth_235 rfl ?_
                      refine lv_isub hx hb dX4_worth_236 ?_
                      refine lv_topi (fun t132 et132 => ?_)
                      have zt132 : t132.toInt = l7_16.toInt - 1 := (congrArg Int32.toInt et132).trans (sub_i rfl tc_1 (om_176 zc115) (om_161 hr7_16))
                      refine lv_aload_n hx hb dX4_worth_237 rfl (lv_at hl 3 rfl) ?_
                      refine va_get (D := (dC, dI)) (ci := 4) (v := .ref (x 18)) (C := RX4) (T := TX4) (N := 6) hx hb hts inB_4 hown hE.1 hP 16 rfl rfl 2 (Nat.le_of_ble_eq_true rfl) (hts _ k_180) (fun _ h9 => h9) rfl dX4_worth_238 ?_
                      refine lv_iload hx hb dX4_worth_241 (lv_at hl 2 rfl) ?_
                      refine lv_iconst (v := 1) hx hb dX4_worth_243 rfl ?_
                      refine lv_isub hx hb dX4_worth_244 ?_
                      refine tI (y := t132) et132.symm ?_
                      refine ldI hx hb hE hP 19 rfl (vpI (k := 30) rfl (show 0 ≤ t132.toInt from om_177 zc115 zt132) (show t132.toInt < 30 from om_163 hr7_16 zt132)) rfl rfl dX4_worth_245 ?_
                      refine lv_topi (fun t134 et134 => ?_)
                      refine lv_if_ne (tgt := 253) hx hb dX4_worth_246 rfl (fun c135 => ?_) (fun c135 => ?_)
                      · skip
                        refine lv_iconst (v := 0) hx hb dX4_worth_253 rfl ?_
                        refine stI hx hb hE hP hD hS 19 rfl (vpI (k := 30) rfl (show 0 ≤ t132.toInt from om_177 zc115 zt132) (show t132.toInt < 30 from om_163 hr7_16 zt132)) rfl dX4_worth_254 (fun H locs hP hD hS => ?_)
                        obtain ⟨f136, ef136, hP, hD⟩ : ∃ fz9, fz9 = upd2 f16 13 (upd (f16 13) t132.toNatClampNeg 0) ∧ va_P (dC, dI) vwCl (XW cy x0 x v16 fz9) H ∧ va_D A (XW cy x0 x v16 fz9) := ⟨_, rfl, hP, hD⟩
                        have hA_f136 : KF [13, 14] f136 f := by rw [ef136]; exact KF.up hA_f16 rfl
                        refine lv_goto (tgt := 299) hx hb dX4_worth_255 rfl ?_
                        obtain ⟨t137, et137⟩ : ∃ y : Int32, y = l8_16 + 1 := ⟨_, rfl⟩
                        have zt137 : t137.toInt = l8_16.toInt + 1 := (congrArg Int32.toInt et137).trans (add_i rfl tc_1 (om_41 hr8_16) (om_91 zc25))
                        refine lv_iinc (v := t137) (lv' := [(8, .int t137), (9, .int t29), (7, .int l7_16), (0, .ref (x 15)), (1, .int p1), (2, .int p2), (3, .int p3), (4, .int p4), (5, .int p5), (6, .int p6)]) hx hb dX4_worth_299 hl (k := 1) rfl et137.symm (Nat.le_of_ble_eq_true rfl) rfl (fun ls hl => ?_)
                        refine lv_goto (tgt := 124) hx hb dX4_worth_302 rfl ?_
                        have rg138 := fb_rng t137
                        exact ih16 l7_16 t137 v16 f136 hIv16 hq0_v16 hq1_v16 hq7_v16 hq8_v16 hq9_v16 hq10_v16 hq31_v16 hq32_v16 ((gsX_X4_worth_1_q15 c17 c25 et29 c30 c52 c97 c98 c115 et132 et134 c135 ef136 et137).symm.trans hT16) ⟨show (0 : Int) ≤ l7_16.toInt from om_178 zc115, show l7_16.toInt ≤ (30 : Int) from om_148 hr7_16⟩ ⟨show (0 : Int) ≤ t137.toInt from om_43 hr8_16 zt137, show t137.toInt ≤ (2147483647 : Int) from om_44 rg138⟩ hM_v16 hA_f136 (show (2147483647 - t137.toInt).toNat < n16 from om_33 hm16 zt137 rg138) _ _ _ hP hD hS (lv_sub hl [0, 2, 3, 4, 5, 6, 7, 8, 9] rfl)
                      · skip
                        refine lv_iconst (v := 1) hx hb dX4_worth_249 rfl ?_
                        refine lv_goto (tgt := 254) hx hb dX4_worth_250 rfl ?_
                        refine stI hx hb hE hP hD hS 19 rfl (vpI (k := 30) rfl (show 0 ≤ t132.toInt from om_177 zc115 zt132) (show t132.toInt < 30 from om_163 hr7_16 zt132)) rfl dX4_worth_254 (fun H locs hP hD hS => ?_)
                        obtain ⟨f139, ef139, hP, hD⟩ : ∃ fz9, fz9 = upd2 f16 13 (upd (f16 13) t132.toNatClampNeg 1) ∧ va_P (dC, dI) vwCl (XW cy x0 x v16 fz9) H ∧ va_D A (XW cy x0 x v16 fz9) := ⟨_, rfl, hP, hD⟩
                        have hA_f139 : KF [13, 14] f139 f := by rw [ef139]; exact KF.up hA_f16 rfl
                        refine lv_goto (tgt := 299) hx hb dX4_worth_255 rfl ?_
                        obtain ⟨t140, et140⟩ : ∃ y : Int32, y = l8_16 + 1 := ⟨_, rfl⟩
                        have zt140 : t140.toInt = l8_16.toInt + 1 := (congrArg Int32.toInt et140).trans (add_i rfl tc_1 (om_41 hr8_16) (om_91 zc25))
                        refine lv_iinc (v := t140) (lv' := [(8, .int t140), (9, .int t29), (7, .int l7_16), (0, .ref (x 15)), (1, .int p1), (2, .int p2), (3, .int p3), (4, .int p4), (5, .int p5), (6, .int p6)]) hx hb dX4_worth_299 hl (k := 1) rfl et140.symm (Nat.le_of_ble_eq_true rfl) rfl (fun ls hl => ?_)
                        refine lv_goto (tgt := 124) hx hb dX4_worth_302 rfl ?_
                        have rg141 := fb_rng t140
                        exact ih16 l7_16 t140 v16 f139 hIv16 hq0_v16 hq1_v16 hq7_v16 hq8_v16 hq9_v16 hq10_v16 hq31_v16 hq32_v16 ((gsX_X4_worth_1_q16 c17 c25 et29 c30 c52 c97 c98 c115 et132 et134 c135 ef139 et140).symm.trans hT16) ⟨show (0 : Int) ≤ l7_16.toInt from om_178 zc115, show l7_16.toInt ≤ (30 : Int) from om_148 hr7_16⟩ ⟨show (0 : Int) ≤ t140.toInt from om_43 hr8_16 zt140, show t140.toInt ≤ (2147483647 : Int) from om_44 rg141⟩ hM_v16 hA_f139 (show (2147483647 - t140.toInt).toNat < n16 from om_33 hm16 zt140 rg141) _ _ _ hP hD hS (lv_sub hl [0, 2, 3, 4, 5, 6, 7, 8, 9] rfl)
                · skip
                  have zc97 : ¬ (122 ≤ t29.toInt) := zMn tc_122 rfl c97
                  refine lv_iload hx hb dX4_worth_170 (lv_at hl 2 rfl) ?_
                  refine lv_bipush (v := 30) hx hb dX4_worth_172 rfl ?_
                  refine lv_icmp_ge (tgt := 299) hx hb dX4_worth_174 rfl (fun c142 => ?_) (fun c142 => ?_)
                  · skip
                    have zc142 : 30 ≤ l7_16.toInt := zMp tc_30 rfl c142
                    obtain ⟨t143, et143⟩ : ∃ y : Int32, y = l8_16 + 1 := ⟨_, rfl⟩
                    have zt143 : t143.toInt = l8_16.toInt + 1 := (congrArg Int32.toInt et143).trans (add_i rfl tc_1 (om_41 hr8_16) (om_91 zc25))
                    refine lv_iinc (v := t143) (lv' := [(8, .int t143), (9, .int t29), (7, .int l7_16), (0, .ref (x 15)), (1, .int p1), (2, .int p2), (3, .int p3), (4, .int p4), (5, .int p5), (6, .int p6)]) hx hb dX4_worth_299 hl (k := 1) rfl et143.symm (Nat.le_of_ble_eq_true rfl) rfl (fun ls hl => ?_)
                    refine lv_goto (tgt := 124) hx hb dX4_worth_302 rfl ?_
                    have rg145 := fb_rng t143
                    exact ih16 l7_16 t143 v16 f16 hIv16 hq0_v16 hq1_v16 hq7_v16 hq8_v16 hq9_v16 hq10_v16 hq31_v16 hq32_v16 ((gsX_X4_worth_1_q17 c17 c25 et29 c30 c52 c97 c142 et143).symm.trans hT16) ⟨show (0 : Int) ≤ l7_16.toInt from om_147 zc142, show l7_16.toInt ≤ (30 : Int) from om_148 hr7_16⟩ ⟨show (0 : Int) ≤ t143.toInt from om_43 hr8_16 zt143, show t143.toInt ≤ (2147483647 : Int) from om_44 rg145⟩ hM_v16 hA_f16 (show (2147483647 - t143.toInt).toNat < n16 from om_33 hm16 zt143 rg145) _ _ _ hP hD hS (lv_sub hl [0, 2, 3, 4, 5, 6, 7, 8, 9] rfl)
                  · skip
                    have zc142 : ¬ (30 ≤ l7_16.toInt) := zMn tc_30 rfl c142
                    refine lv_aload_n hx hb dX4_worth_177 rfl (lv_at hl 3 rfl) ?_
                    refine va_get (D := (dC, dI)) (ci := 4) (v := .ref (x 18)) (C := RX4) (T := TX4) (N := 6) hx hb hts inB_4 hown hE.1 hP 16 rfl rfl 2 (Nat.le_of_ble_eq_true rfl) (hts _ k_180) (fun _ h9 => h9) rfl dX4_worth_178 ?_
                    refine lv_iload hx hb dX4_worth_181 (lv_at hl 2 rfl) ?_
                    refine lv_iload hx hb dX4_worth_183 (lv_at hl 0 rfl) ?_
                    refine lv_iconst (v := 2) hx hb dX4_worth_185 rfl ?_
                    refine lv_icmp_ne (tgt := 199) hx hb dX4_worth_186 rfl (fun c146 => ?_) (fun c146 => ?_)
                    · skip
                      refine lv_aload_n hx hb dX4_worth_199 rfl (lv_at hl 3 rfl) ?_
                      refine va_get (D := (dC, dI)) (ci := 4) (v := .ref (x 19)) (C := RX4) (T := TX4) (N := 6) hx hb hts inB_4 hown hE.1 hP 16 rfl rfl 3 (Nat.le_of_ble_eq_true rfl) (hts _ k_181) (fun _ h9 => h9) rfl dX4_worth_200 ?_
                      refine lv_iload hx hb dX4_worth_203 (lv_at hl 0 rfl) ?_
                      refine lv_bipush (v := 116) hx hb dX4_worth_205 rfl ?_
                      refine lv_isub hx hb dX4_worth_207 ?_
                      refine lv_topi (fun t147 et147 => ?_)
                      have zt147 : t147.toInt = t29.toInt - 116 := (congrArg Int32.toInt et147).trans (sub_i rfl tc_116 (om_179 zc52) (om_180 zc97))
                      refine ldI hx hb hE hP 20 rfl (vpI (k := 6) rfl (show 0 ≤ t147.toInt from om_181 zc52 zt147) (show t147.toInt < 6 from om_182 zc97 zt147)) rfl rfl dX4_worth_208 ?_
                      refine lv_topi (fun t149 et149 => ?_)
                      refine stI hx hb hE hP hD hS 19 rfl (vpI (k := 30) rfl (show 0 ≤ l7_16.toInt from om_127 hr7_16) (show l7_16.toInt < 30 from om_134 zc142)) rfl dX4_worth_209 (fun H locs hP hD hS => ?_)
                      obtain ⟨f150, ef150, hP, hD⟩ : ∃ fz9, fz9 = upd2 f16 13 (upd (f16 13) l7_16.toNatClampNeg t149) ∧ va_P (dC, dI) vwCl (XW cy x0 x v16 fz9) H ∧ va_D A (XW cy x0 x v16 fz9) := ⟨_, rfl, hP, hD⟩
                      have hA_f150 : KF [13, 14] f150 f := by rw [ef150]; exact KF.up hA_f16 rfl
                      obtain ⟨t151, et151⟩ : ∃ y : Int32, y = l7_16 + 1 := ⟨_, rfl⟩
                      have zt151 : t151.toInt = l7_16.toInt + 1 := (congrArg Int32.toInt et151).trans (add_i rfl tc_1 (om_129 hr7_16) (om_153 zc142))
                      refine lv_iinc (v := t151) (lv' := [(7, .int t151), (9, .int t29), (8, .int l8_16), (0, .ref (x 15)), (1, .int p1), (2, .int p2), (3, .int p3), (4, .int p4), (5, .int p5), (6, .int p6)]) hx hb dX4_worth_210 hl (k := 2) rfl et151.symm (Nat.le_of_ble_eq_true rfl) rfl (fun ls hl => ?_)
                      refine lv_goto (tgt := 299) hx hb dX4_worth_213 rfl ?_
                      obtain ⟨t153, et153⟩ : ∃ y : Int32, y = l8_16 + 1 := ⟨_, rfl⟩
                      have zt153 : t153.toInt = l8_16.toInt + 1 := (congrArg Int32.toInt et153).trans (add_i rfl tc_1 (om_41 hr8_16) (om_91 zc25))
                      refine lv_iinc (v := t153) (lv' := [(8, .int t153), (7, .int t151), (9, .int t29), (0, .ref (x 15)), (1, .int p1), (2, .int p2), (3, .int p3), (4, .int p4), (5, .int p5), (6, .int p6)]) hx hb dX4_worth_299 hl (k := 2) rfl et153.symm (Nat.le_of_ble_eq_true rfl) rfl (fun ls hl => ?_)
                      refine lv_goto (tgt := 124) hx hb dX4_worth_302 rfl ?_
                      have rg155 := fb_rng t153
                      exact ih16 t151 t153 v16 f150 hIv16 hq0_v16 hq1_v16 hq7_v16 hq8_v16 hq9_v16 hq10_v16 hq31_v16 hq32_v16 ((gsX_X4_worth_1_q18 c17 c25 et29 c30 c52 c97 c142 c146 et147 et149 ef150 et151 et153).symm.trans hT16) ⟨show (0 : Int) ≤ t151.toInt from om_132 hr7_16 zt151, show t151.toInt ≤ (30 : Int) from om_154 zc142 zt151⟩ ⟨show (0 : Int) ≤ t153.toInt from om_43 hr8_16 zt153, show t153.toInt ≤ (2147483647 : Int) from om_44 rg155⟩ hM_v16 hA_f150 (show (2147483647 - t153.toInt).toNat < n16 from om_33 hm16 zt153 rg155) _ _ _ hP hD hS (lv_sub hl [0, 1, 3, 4, 5, 6, 7, 8, 9] rfl)
                    · skip
                      refine lv_aload_n hx hb dX4_worth_189 rfl (lv_at hl 3 rfl) ?_
                      refine va_get (D := (dC, dI)) (ci := 4) (v := .ref (x 17)) (C := RX4) (T := TX4) (N := 6) hx hb hts inB_4 hown hE.1 hP 16 rfl rfl 1 (Nat.le_of_ble_eq_true rfl) (hts _ k_179) (fun _ h9 => h9) rfl dX4_worth_190 ?_
                      refine lv_iload hx hb dX4_worth_193 (lv_at hl 1 rfl) ?_
                      refine ldI hx hb hE hP 18 rfl (vpI (k := 300) rfl (show 0 ≤ l8_16.toInt from om_39 hr8_16) (show l8_16.toInt < 300 from om_89 zc25)) rfl rfl dX4_worth_195 ?_
                      refine lv_topi (fun t156 et156 => ?_)
                      refine lv_goto (tgt := 209) hx hb dX4_worth_196 rfl ?_
                      refine stI hx hb hE hP hD hS 19 rfl (vpI (k := 30) rfl (show 0 ≤ l7_16.toInt from om_127 hr7_16) (show l7_16.toInt < 30 from om_134 zc142)) rfl dX4_worth_209 (fun H locs hP hD hS => ?_)
                      obtain ⟨f157, ef157, hP, hD⟩ : ∃ fz9, fz9 = upd2 f16 13 (upd (f16 13) l7_16.toNatClampNeg t156) ∧ va_P (dC, dI) vwCl (XW cy x0 x v16 fz9) H ∧ va_D A (XW cy x0 x v16 fz9) := ⟨_, rfl, hP, hD⟩
                      have hA_f157 : KF [13, 14] f157 f := by rw [ef157]; exact KF.up hA_f16 rfl
                      obtain ⟨t158, et158⟩ : ∃ y : Int32, y = l7_16 + 1 := ⟨_, rfl⟩
                      have zt158 : t158.toInt = l7_16.toInt + 1 := (congrArg Int32.toInt et158).trans (add_i rfl tc_1 (om_129 hr7_16) (om_153 zc142))
                      refine lv_iinc (v := t158) (lv' := [(7, .int t158), (9, .int t29), (8, .int l8_16), (0, .ref (x 15)), (1, .int p1), (2, .int p2), (3, .int p3), (4, .int p4), (5, .int p5), (6, .int p6)]) hx hb dX4_worth_210 hl (k := 2) rfl et158.symm (Nat.le_of_ble_eq_true rfl) rfl (fun ls hl => ?_)
                      refine lv_goto (tgt := 299) hx hb dX4_worth_213 rfl ?_
                      obtain ⟨t160, et160⟩ : ∃ y : Int32, y = l8_16 + 1 := ⟨_, rfl⟩
                      have zt160 : t160.toInt = l8_16.toInt + 1 := (congrArg Int32.toInt et160).trans (add_i rfl tc_1 (om_41 hr8_16) (om_91 zc25))
                      refine lv_iinc (v := t160) (lv' := [(8, .int t160), (7, .int t158), (9, .int t29), (0, .ref (x 15)), (1, .int p1), (2, .int p2), (3, .int p3), (4, .int p4), (5, .int p5), (6, .int p6)]) hx hb dX4_worth_299 hl (k := 2) rfl et160.symm (Nat.le_of_ble_eq_true rfl) rfl (fun ls hl => ?_)
                      refine lv_goto (tgt := 124) hx hb dX4_worth_302 rfl ?_
                      have rg162 := fb_rng t160
                      exact ih16 t158 t160 v16 f157 hIv16 hq0_v16 hq1_v16 hq7_v16 hq8_v16 hq9_v16 hq10_v16 hq31_v16 hq32_v16 ((gsX_X4_worth_1_q19 c17 c25 et29 c30 c52 c97 c142 c146 et156 ef157 et158 et160).symm.trans hT16) ⟨show (0 : Int) ≤ t158.toInt from om_132 hr7_16 zt158, show t158.toInt ≤ (30 : Int) from om_154 zc142 zt158⟩ ⟨show (0 : Int) ≤ t160.toInt from om_43 hr8_16 zt160, show t160.toInt ≤ (2147483647 : Int) from om_44 rg162⟩ hM_v16 hA_f157 (show (2147483647 - t160.toInt).toNat < n16 from om_33 hm16 zt160 rg162) _ _ _ hP hD hS (lv_sub hl [0, 1, 3, 4, 5, 6, 7, 8, 9] rfl)
    exact lp16 (4294967296 + NF) 0 0 v f14 hIv rfl rfl rfl rfl rfl rfl rfl rfl (gsX_X4_worth_1_q20 et1 et2 ef3 et4 et5 ef6 et7 et8 ef9 et10 et11 ef12 ef13 ef14 c15).symm ⟨by decide, by decide⟩ ⟨by decide, by decide⟩ hM_v hA_f14 (show (2147483647 - (0 : Int32).toInt).toNat < 4294967296 + NF from om_38 tc_0) _ _ _ hP hD hS (lv_sub hl [0, 1, 2, 3, 4, 5, 6, 7, 8] rfl)
  · skip
    refine lv_sipush (v := 999) hx hb dX4_worth_77 rfl ?_
    refine lv_aload_n hx hb dX4_worth_80 rfl (lv_at hl 0 rfl) ?_
    refine va_get (D := (dC, dI)) (ci := 4) (v := .ref (x 19)) (C := RX4) (T := TX4) (N := 6) hx hb hts inB_4 hown hE.1 hP 16 rfl rfl 3 (Nat.le_of_ble_eq_true rfl) (hts _ k_181) (fun _ h9 => h9) rfl dX4_worth_81 ?_
    refine lv_iconst (v := 0) hx hb dX4_worth_84 rfl ?_
    refine ldI hx hb hE hP 20 rfl (vp_in_nI (n := 0) (by decide) (by decide)) rfl rfl dX4_worth_85 ?_
    refine lv_topi (fun t163 et163 => ?_)
    refine lv_iconst (v := 3) hx hb dX4_worth_86 rfl ?_
    refine lv_imul hx hb dX4_worth_87 ?_
    refine lv_topi (fun t164 et164 => ?_)
    refine lv_aload_n hx hb dX4_worth_88 rfl (lv_at hl 0 rfl) ?_
    refine va_get (D := (dC, dI)) (ci := 4) (v := .ref (x 19)) (C := RX4) (T := TX4) (N := 6) hx hb hts inB_4 hown hE.1 hP 16 rfl rfl 3 (Nat.le_of_ble_eq_true rfl) (hts _ k_181) (fun _ h9 => h9) rfl dX4_worth_89 ?_
    refine lv_iconst (v := 1) hx hb dX4_worth_92 rfl ?_
    refine ldI hx hb hE hP 20 rfl (vp_in_nI (n := 1) (by decide) (by decide)) rfl rfl dX4_worth_93 ?_
    refine lv_topi (fun t165 et165 => ?_)
    refine lv_iadd hx hb dX4_worth_94 ?_
    refine lv_topi (fun t166 et166 => ?_)
    refine lv_aload_n hx hb dX4_worth_95 rfl (lv_at hl 0 rfl) ?_
    refine va_get (D := (dC, dI)) (ci := 4) (v := .ref (x 19)) (C := RX4) (T := TX4) (N := 6) hx hb hts inB_4 hown hE.1 hP 16 rfl rfl 3 (Nat.le_of_ble_eq_true rfl) (hts _ k_181) (fun _ h9 => h9) rfl dX4_worth_96 ?_
    refine lv_iconst (v := 2) hx hb dX4_worth_99 rfl ?_
    refine ldI hx hb hE hP 20 rfl (vp_in_nI (n := 2) (by decide) (by decide)) rfl rfl dX4_worth_100 ?_
    refine lv_topi (fun t167 et167 => ?_)
    refine lv_iconst (v := 2) hx hb dX4_worth_101 rfl ?_
    refine lv_imul hx hb dX4_worth_102 ?_
    refine lv_topi (fun t168 et168 => ?_)
    refine lv_iadd hx hb dX4_worth_103 ?_
    refine lv_topi (fun t169 et169 => ?_)
    refine lv_aload_n hx hb dX4_worth_104 rfl (lv_at hl 0 rfl) ?_
    refine va_get (D := (dC, dI)) (ci := 4) (v := .ref (x 19)) (C := RX4) (T := TX4) (N := 6) hx hb hts inB_4 hown hE.1 hP 16 rfl rfl 3 (Nat.le_of_ble_eq_true rfl) (hts _ k_181) (fun _ h9 => h9) rfl dX4_worth_105 ?_
    refine lv_iconst (v := 3) hx hb dX4_worth_108 rfl ?_
    refine ldI hx hb hE hP 20 rfl (vp_in_nI (n := 3) (by decide) (by decide)) rfl rfl dX4_worth_109 ?_
    refine lv_topi (fun t170 et170 => ?_)
    refine lv_iadd hx hb dX4_worth_110 ?_
    refine lv_topi (fun t171 et171 => ?_)
    refine lv_iload hx hb dX4_worth_111 (lv_at hl 5 rfl) ?_
    refine lv_iadd hx hb dX4_worth_113 ?_
    refine lv_topi (fun t172 et172 => ?_)
    refine va_mmin hx hb (by rw [hml]; exact hl.1.symm) hown (hts _ k_840) (hts _ k_643) (hts _ k_119) (hts _ k_644) (Nat.le_of_ble_eq_true rfl) (Nat.le_of_ble_eq_true rfl) (Nat.le_of_ble_eq_true rfl) (Nat.le_of_ble_eq_true rfl) dX4_worth_114 ?_
    refine lv_topi (fun t173 et173 => ?_)
    exact ret t173 (v, f14) _ _ _ _ _ _ rfl ⟨(gsX_X4_worth_1_q21 et1 et2 ef3 et4 et5 ef6 et7 et8 ef9 et10 et11 ef12 ef13 ef14 c15 et163 et164 et165 et166 et167 et168 et169 et170 et171 et172 et173), hM_v, hA_f14, hIv, rfl, rfl, rfl, rfl, rfl, rfl, rfl, rfl⟩ hP hD hS dX4_worth_117 (Nat.le_refl _) (Nat.le_refl _)
set_option maxHeartbeats 4000000 in
set_option maxRecDepth 100000 in
theorem sX_X1_illness_1 (NF : Nat) (l : Launch) (dC : Nat → ClassId) (dI : Nat → Nat → Nat) (cy : Nat → ClassId) (x0 : Nat) (x : Nat → Nat) (p1 : Int32) (p2 : Int32) (v : Nat → Int32) (f : Nat → Nat → Int32) (hIv : XI v)  : ctI l (dC, dI) cy yX1_illness cX1_illness 3 .int 3 111 0 0 ((Nat → Int32) × (Nat → Nat → Int32)) [.ref (x 21), .int p1, .int p2] (XW cy x0 x v f) (fun r u => gsX_X1_illness_1 NF p1 p2 v f = (r, u) ∧ KV [] u.1 v ∧ KF [13, 14] u.2 f ∧ XI u.1 ∧ u.1 0 = v 0 ∧ u.1 1 = v 1 ∧ u.1 7 = v 7 ∧ u.1 8 = v 8 ∧ u.1 9 = v 9 ∧ u.1 10 = v 10 ∧ u.1 31 = v 31 ∧ u.1 32 = v 32) (fun u => XW cy x0 x u.1 u.2) := by
  refine ctI_of (by decide) (Nat.le_of_ble_eq_true rfl) (fun p e s m below meth c A ls Q hx hb hml hts hown hE hP hD hA hl ret => ?_)
  have hM_v : KV [] v v := fun _ _ => rfl
  have hA_f : KF [13, 14] f f := fun _ _ => rfl
  have hown : s.vm.findClass RX1 = some m.cls := hown
  have hS : va_S A s.heap s.heap [] := va_S.rf
  have hl : lv_has ls 3 [(0, .ref (x 21)), (1, .int p1), (2, .int p2)] := hl
  refine lv_aload_n hx hb dX1_illness_0 rfl (lv_at hl 0 rfl) ?_
  refine va_get (D := (dC, dI)) (ci := 1) (v := .ref (x 26)) (C := RX1) (T := TX1) (N := 2) hx hb hts inB_1 hown hE.1 hP 22 rfl rfl 0 (Nat.le_of_ble_eq_true rfl) (hts _ k_318) (fun _ h9 => h9) rfl dX1_illness_1 ?_
  refine va_getN (D := (dC, dI)) (ci := 7) (v := .ref (x 15)) (C := RX7) (T := TX7) (N := 10) hx hb hts inB_7 hown hE.1 hP 27 rfl rfl 2 (Nat.le_of_ble_eq_true rfl) (va_Nw.use rfl (hE.2 _ k_209)) (fun _ h9 => h9) rfl dX1_illness_4 ?_
  refine lv_aload_n hx hb dX1_illness_7 rfl (lv_at hl 0 rfl) ?_
  refine va_get (D := (dC, dI)) (ci := 1) (v := .ref (x 26)) (C := RX1) (T := TX1) (N := 2) hx hb hts inB_1 hown hE.1 hP 22 rfl rfl 0 (Nat.le_of_ble_eq_true rfl) (hts _ k_318) (fun _ h9 => h9) rfl dX1_illness_8 ?_
  refine lv_iconst (v := 0) hx hb dX1_illness_11 rfl ?_
  refine lv_iload_n hx hb dX1_illness_12 rfl (lv_at hl 1 rfl) ?_
  refine cbVi (n := 2) (rest := [.ref (x 15)]) hx hb hml hown hts hE hP hD hS hA (sX_X7_manPart_1 NF l dC dI cy x0 x 0 p1 v f hIv ) k_302 k_303 k_304 k_104 k_305 hd_yX7_manPart ⟨Nat.le_of_ble_eq_true rfl, Nat.le_of_ble_eq_true rfl⟩ 27 7 rfl rfl (rfl) hl.1 rfl (Nat.le_of_ble_eq_true rfl) dX1_illness_13 (fun r1 u H locs hw hP hD hS => ?_)
  have hG2 := hw
  refine lv_aload_n hx hb dX1_illness_16 rfl (lv_at hl 0 rfl) ?_
  refine lv_iload_n hx hb dX1_illness_17 rfl (lv_at hl 1 rfl) ?_
  refine cbVi (n := 1) (rest := [.int r1, .ref (x 15)]) hx hb hml hown hts hE hP hD hS hA (sX_X1_manWide_1 NF l dC dI cy x0 x p1 v f hIv ) k_826 k_805 k_806 k_106 k_807 hd_yX1_manWide ⟨Nat.le_of_ble_eq_true rfl, Nat.le_of_ble_eq_true rfl⟩ 22 1 rfl rfl (rfl) hl.1 rfl (Nat.le_of_ble_eq_true rfl) dX1_illness_18 (fun r3 u H locs hw hP hD hS => ?_)
  have hG4 := hw
  refine lv_aload_n hx hb dX1_illness_21 rfl (lv_at hl 0 rfl) ?_
  refine lv_iconst (v := 0) hx hb dX1_illness_22 rfl ?_
  refine lv_iload_n hx hb dX1_illness_23 rfl (lv_at hl 2 rfl) ?_
  refine cbVi (n := 2) (rest := [.int r3, .int r1, .ref (x 15)]) hx hb hml hown hts hE hP hD hS hA (sX_X1_part_1 NF l dC dI cy x0 x 0 p2 v f hIv ) k_827 k_828 k_829 k_106 k_830 hd_yX1_part ⟨Nat.le_of_ble_eq_true rfl, Nat.le_of_ble_eq_true rfl⟩ 22 1 rfl rfl (rfl) hl.1 rfl (Nat.le_of_ble_eq_true rfl) dX1_illness_24 (fun r5 u H locs hw hP hD hS => ?_)
  have hG6 := hw
  refine lv_aload_n hx hb dX1_illness_27 rfl (lv_at hl 0 rfl) ?_
  refine lv_iconst (v := 1) hx hb dX1_illness_28 rfl ?_
  refine lv_iload_n hx hb dX1_illness_29 rfl (lv_at hl 2 rfl) ?_
  refine cbVi (n := 2) (rest := [.int r5, .int r3, .int r1, .ref (x 15)]) hx hb hml hown hts hE hP hD hS hA (sX_X1_part_1 NF l dC dI cy x0 x 1 p2 v f hIv ) k_827 k_828 k_829 k_106 k_830 hd_yX1_part ⟨Nat.le_of_ble_eq_true rfl, Nat.le_of_ble_eq_true rfl⟩ 22 1 rfl rfl (rfl) hl.1 rfl (Nat.le_of_ble_eq_true rfl) dX1_illness_30 (fun r7 u H locs hw hP hD hS => ?_)
  have hG8 := hw
  refine lv_aload_n hx hb dX1_illness_33 rfl (lv_at hl 0 rfl) ?_
  refine lv_iconst (v := 3) hx hb dX1_illness_34 rfl ?_
  refine lv_iload_n hx hb dX1_illness_35 rfl (lv_at hl 2 rfl) ?_
  refine cbVi (n := 2) (rest := [.int r7, .int r5, .int r3, .int r1, .ref (x 15)]) hx hb hml hown hts hE hP hD hS hA (sX_X1_part_1 NF l dC dI cy x0 x 3 p2 v f hIv ) k_827 k_828 k_829 k_106 k_830 hd_yX1_part ⟨Nat.le_of_ble_eq_true rfl, Nat.le_of_ble_eq_true rfl⟩ 22 1 rfl rfl (rfl) hl.1 rfl (Nat.le_of_ble_eq_true rfl) dX1_illness_36 (fun r9 u H locs hw hP hD hS => ?_)
  have hG10 := hw
  refine lv_aload_n hx hb dX1_illness_39 rfl (lv_at hl 0 rfl) ?_
  refine cbVi (n := 0) (rest := [.int r9, .int r7, .int r5, .int r3, .int r1, .ref (x 15)]) hx hb hml hown hts hE hP hD hS hA (sX_X1_today_1 NF l dC dI cy x0 x  v f hIv ) k_831 k_832 k_833 k_106 k_834 hd_yX1_today ⟨Nat.le_of_ble_eq_true rfl, Nat.le_of_ble_eq_true rfl⟩ 22 1 rfl rfl (rfl) hl.1 rfl (Nat.le_of_ble_eq_true rfl) dX1_illness_40 (fun r11 u H locs hw hP hD hS => ?_)
  have hG12 := hw
  refine cbVi (n := 6) (rest := []) hx hb hml hown hts hE hP hD hS hA (sX_X4_worth_1 NF l dC dI cy x0 x r1 r3 r5 r7 r9 r11 v f hIv ) k_835 k_836 k_837 k_105 k_838 hd_yX4_worth ⟨Nat.le_of_ble_eq_true rfl, Nat.le_of_ble_eq_true rfl⟩ 16 4 rfl rfl (rfl) hl.1 rfl (Nat.le_of_ble_eq_true rfl) dX1_illness_43 (fun r13 u H locs hw hP hD hS => ?_)
  obtain ⟨hG14, hw⟩ := hw
  obtain ⟨v15, f16⟩ := u
  obtain ⟨kV_v15, kF_f16, hIv15, hk0_v15, hk1_v15, hk7_v15, hk8_v15, hk9_v15, hk10_v15, hk31_v15, hk32_v15⟩ := hw
  have hM_v15 : KV [] v15 v := KV.tr kV_v15 hM_v rfl
  have hA_f16 : KF [13, 14] f16 f := KF.tr kF_f16 hA_f rfl
  have hP : va_P (dC, dI) vwCl (XW cy x0 x v15 f16) H := hP
  have hD : va_D A (XW cy x0 x v15 f16) := hD
  have hq0_v15 : v15 0 = (v 0) := hk0_v15
  have hq1_v15 : v15 1 = (v 1) := hk1_v15
  have hq7_v15 : v15 7 = (v 7) := hk7_v15
  have hq8_v15 : v15 8 = (v 8) := hk8_v15
  have hq9_v15 : v15 9 = (v 9) := hk9_v15
  have hq10_v15 : v15 10 = (v 10) := hk10_v15
  have hq31_v15 : v15 31 = (v 31) := hk31_v15
  have hq32_v15 : v15 32 = (v 32) := hk32_v15
  exact ret r13 (v15, f16) _ _ _ _ _ _ rfl ⟨(gsX_X1_illness_1_q0 hG2.symm hG4.symm hG6.symm hG8.symm hG10.symm hG12.symm hG14), hM_v15, hA_f16, hIv15, hk0_v15, hk1_v15, hk7_v15, hk8_v15, hk9_v15, hk10_v15, hk31_v15, hk32_v15⟩ hP hD hS dX1_illness_46 (Nat.le_refl _) (Nat.le_refl _)
set_option maxHeartbeats 4000000 in
set_option maxRecDepth 100000 in
theorem sX_X10_misfit_1 (NF : Nat) (l : Launch) (dC : Nat → ClassId) (dI : Nat → Nat → Nat) (cy : Nat → ClassId) (x0 : Nat) (x : Nat → Nat) (p1 : Int32) (p2 : Int32) (v : Nat → Int32) (f : Nat → Nat → Int32) (hIv : XI v)  : ctI l (dC, dI) cy yX10_misfit cX10_misfit 3 .int 4 133 0 0 ((Nat → Int32) × (Nat → Nat → Int32)) [.ref x0, .int p1, .int p2] (XW cy x0 x v f) (fun r u => gsX_X10_misfit_1 NF p1 p2 v f = (r, u) ∧ KV [] u.1 v ∧ KF [13, 14] u.2 f ∧ XI u.1 ∧ u.1 0 = v 0 ∧ u.1 1 = v 1 ∧ u.1 7 = v 7 ∧ u.1 8 = v 8 ∧ u.1 9 = v 9 ∧ u.1 10 = v 10 ∧ u.1 31 = v 31 ∧ u.1 32 = v 32) (fun u => XW cy x0 x u.1 u.2) := by
  refine ctI_of (by decide) (Nat.le_of_ble_eq_true rfl) (fun p e s m below meth c A ls Q hx hb hml hts hown hE hP hD hA hl ret => ?_)
  have hM_v : KV [] v v := fun _ _ => rfl
  have hA_f : KF [13, 14] f f := fun _ _ => rfl
  have hown : s.vm.findClass RX10 = some m.cls := hown
  have hS : va_S A s.heap s.heap [] := va_S.rf
  have hl : lv_has ls 3 [(0, .ref x0), (1, .int p1), (2, .int p2)] := hl
  refine lv_aload_n hx hb dX10_misfit_0 rfl (lv_at hl 0 rfl) ?_
  refine va_get (D := (dC, dI)) (ci := 10) (v := .ref (x 26)) (C := RX10) (T := TX10) (N := 10) hx hb hts inB_10 hown hE.1 hP 0 rfl rfl 2 (Nat.le_of_ble_eq_true rfl) (hts _ k_493) (fun _ h9 => h9) rfl dX10_misfit_1 ?_
  refine lv_iload_n hx hb dX10_misfit_4 rfl (lv_at hl 1 rfl) ?_
  refine cbVi (n := 1) (rest := []) hx hb hml hown hts hE hP hD hS hA (sX_X7_hasMan_1 NF l dC dI cy x0 x p1 v f hIv ) k_802 k_307 k_308 k_104 k_309 hd_yX7_hasMan ⟨Nat.le_of_ble_eq_true rfl, Nat.le_of_ble_eq_true rfl⟩ 27 7 rfl rfl (rfl) hl.1 rfl (Nat.le_of_ble_eq_true rfl) dX10_misfit_5 (fun r1 u H locs hw hP hD hS => ?_)
  obtain ⟨hG2, hw⟩ := hw
  rcases hw with ⟨g3, g3_0, g3_1, g3_2⟩ | ⟨g3⟩
  · skip
    subst g3
    -- @T g3_0 : 0 ≤ p1.toInt
    -- @T g3_1 : p1.toInt < (v 31).toInt
    -- @T g3_2 : p1.toInt ≤ 5
    refine lv_if_eq (tgt := 34) hx hb dX10_misfit_8 rfl (fun c0 => absurd c0 (by decide)) (fun _ => ?_)
    refine lv_aload_n hx hb dX10_misfit_11 rfl (lv_at hl 0 rfl) ?_
    refine va_get (D := (dC, dI)) (ci := 10) (v := .ref (x 26)) (C := RX10) (T := TX10) (N := 10) hx hb hts inB_10 hown hE.1 hP 0 rfl rfl 2 (Nat.le_of_ble_eq_true rfl) (hts _ k_493) (fun _ h9 => h9) rfl dX10_misfit_12 ?_
    refine lv_iload_n hx hb dX10_misfit_15 rfl (lv_at hl 2 rfl) ?_
    refine cbVi (n := 1) (rest := []) hx hb hml hown hts hE hP hD hS hA (sX_X7_hasCoat_1 NF l dC dI cy x0 x p2 v f hIv ) k_848 k_315 k_316 k_104 k_317 hd_yX7_hasCoat ⟨Nat.le_of_ble_eq_true rfl, Nat.le_of_ble_eq_true rfl⟩ 27 7 rfl rfl (rfl) hl.1 rfl (Nat.le_of_ble_eq_true rfl) dX10_misfit_16 (fun r4 u H locs hw hP hD hS => ?_)
    obtain ⟨hG5, hw⟩ := hw
    rcases hw with ⟨g6, g6_0, g6_1, g6_2⟩ | ⟨g6⟩
    · skip
      subst g6
      -- @T g6_0 : 0 ≤ p2.toInt
      -- @T g6_1 : p2.toInt < (v 32).toInt
      -- @T g6_2 : p2.toInt ≤ 5
      refine lv_if_eq (tgt := 34) hx hb dX10_misfit_19 rfl (fun c0 => absurd c0 (by decide)) (fun _ => ?_)
      refine lv_aload_n hx hb dX10_misfit_22 rfl (lv_at hl 0 rfl) ?_
      refine va_get (D := (dC, dI)) (ci := 10) (v := .ref (x 21)) (C := RX10) (T := TX10) (N := 10) hx hb hts inB_10 hown hE.1 hP 0 rfl rfl 3 (Nat.le_of_ble_eq_true rfl) (hts _ k_494) (fun _ h9 => h9) rfl dX10_misfit_23 ?_
      refine lv_iload_n hx hb dX10_misfit_26 rfl (lv_at hl 1 rfl) ?_
      refine lv_iload_n hx hb dX10_misfit_27 rfl (lv_at hl 2 rfl) ?_
      refine cbVi (n := 2) (rest := []) hx hb hml hown hts hE hP hD hS hA (sX_X1_illness_1 NF l dC dI cy x0 x p1 p2 v f hIv ) k_859 k_823 k_824 k_106 k_825 hd_yX1_illness ⟨Nat.le_of_ble_eq_true rfl, Nat.le_of_ble_eq_true rfl⟩ 22 1 rfl rfl (rfl) hl.1 rfl (Nat.le_of_ble_eq_true rfl) dX10_misfit_28 (fun r7 u H locs hw hP hD hS => ?_)
      obtain ⟨hG8, hw⟩ := hw
      obtain ⟨v9, f10⟩ := u
      obtain ⟨kV_v9, kF_f10, hIv9, hk0_v9, hk1_v9, hk7_v9, hk8_v9, hk9_v9, hk10_v9, hk31_v9, hk32_v9⟩ := hw
      have hM_v9 : KV [] v9 v := KV.tr kV_v9 hM_v rfl
      have hA_f10 : KF [13, 14] f10 f := KF.tr kF_f10 hA_f rfl
      have hP : va_P (dC, dI) vwCl (XW cy x0 x v9 f10) H := hP
      have hD : va_D A (XW cy x0 x v9 f10) := hD
      have hq0_v9 : v9 0 = (v 0) := hk0_v9
      have hq1_v9 : v9 1 = (v 1) := hk1_v9
      have hq7_v9 : v9 7 = (v 7) := hk7_v9
      have hq8_v9 : v9 8 = (v 8) := hk8_v9
      have hq9_v9 : v9 9 = (v 9) := hk9_v9
      have hq10_v9 : v9 10 = (v 10) := hk10_v9
      have hq31_v9 : v9 31 = (v 31) := hk31_v9
      have hq32_v9 : v9 32 = (v 32) := hk32_v9
      refine lv_goto (tgt := 35) hx hb dX10_misfit_31 rfl ?_
      exact ret r7 (v9, f10) _ _ _ _ _ _ rfl ⟨(gsX_X10_misfit_1_q0 hG2 hG5 hG8), hM_v9, hA_f10, hIv9, hk0_v9, hk1_v9, hk7_v9, hk8_v9, hk9_v9, hk10_v9, hk31_v9, hk32_v9⟩ hP hD hS dX10_misfit_35 (Nat.le_refl _) (Nat.le_refl _)
    · skip
      subst g6
      refine lv_if_eq (tgt := 34) hx hb dX10_misfit_19 rfl (fun _ => ?_) (fun c0 => absurd (by decide) c0)
      refine lv_iconst (v := (-1)) hx hb dX10_misfit_34 rfl ?_
      exact ret (-1) (v, f) _ _ _ _ _ _ rfl ⟨(gsX_X10_misfit_1_q1 hG2 hG5), hM_v, hA_f, hIv, rfl, rfl, rfl, rfl, rfl, rfl, rfl, rfl⟩ hP hD hS dX10_misfit_35 (Nat.le_refl _) (Nat.le_refl _)
  · skip
    subst g3
    refine lv_if_eq (tgt := 34) hx hb dX10_misfit_8 rfl (fun _ => ?_) (fun c0 => absurd (by decide) c0)
    refine lv_iconst (v := (-1)) hx hb dX10_misfit_34 rfl ?_
    exact ret (-1) (v, f) _ _ _ _ _ _ rfl ⟨(gsX_X10_misfit_1_q2 hG2), hM_v, hA_f, hIv, rfl, rfl, rfl, rfl, rfl, rfl, rfl, rfl⟩ hP hD hS dX10_misfit_35 (Nat.le_refl _) (Nat.le_refl _)
set_option maxHeartbeats 4000000 in
set_option maxRecDepth 100000 in
theorem sX_X8_fitsGrown_1 (NF : Nat) (l : Launch) (dC : Nat → ClassId) (dI : Nat → Nat → Nat) (cy : Nat → ClassId) (x0 : Nat) (x : Nat → Nat) (p1 : Int32) (p2 : Int32) (v : Nat → Int32) (f : Nat → Nat → Int32) (hIv : XI v)  : ctI l (dC, dI) cy yX8_fitsGrown cX8_fitsGrown 5 .boolean 3 111 0 0 ((Nat → Int32) × (Nat → Nat → Int32)) [.ref (x 35), .int p1, .int p2] (XW cy x0 x v f) (fun r u => gsX_X8_fitsGrown_1 NF p1 p2 v f = (r, u) ∧ KV [] u.1 v ∧ KF [13, 14] u.2 f ∧ XI u.1 ∧ u.1 0 = v 0 ∧ u.1 1 = v 1 ∧ u.1 7 = v 7 ∧ u.1 8 = v 8 ∧ u.1 9 = v 9 ∧ u.1 10 = v 10 ∧ u.1 31 = v 31 ∧ u.1 32 = v 32 ∧ ((r = 1) ∨ (r = 0))) (fun u => XW cy x0 x u.1 u.2) := by
  refine ctI_of (by decide) (Nat.le_of_ble_eq_true rfl) (fun p e s m below meth c A ls Q hx hb hml hts hown hE hP hD hA hl ret => ?_)
  have hM_v : KV [] v v := fun _ _ => rfl
  have hA_f : KF [13, 14] f f := fun _ _ => rfl
  have hown : s.vm.findClass RX8 = some m.cls := hown
  have hS : va_S A s.heap s.heap [] := va_S.rf
  have hl : lv_has ls 5 [(0, .ref (x 35)), (1, .int p1), (2, .int p2)] := hl
  refine lv_bipush (v := 99) hx hb dX8_fitsGrown_0 rfl ?_
  refine lv_aload_n hx hb dX8_fitsGrown_2 rfl (lv_at hl 0 rfl) ?_
  refine va_get (D := (dC, dI)) (ci := 8) (v := .ref (x 26)) (C := RX8) (T := TX8) (N := 7) hx hb hts inB_8 hown hE.1 hP 36 rfl rfl 0 (Nat.le_of_ble_eq_true rfl) (hts _ k_467) (fun _ h9 => h9) rfl dX8_fitsGrown_3 ?_
  refine lv_iconst (v := 1) hx hb dX8_fitsGrown_6 rfl ?_
  refine lv_iconst (v := 0) hx hb dX8_fitsGrown_7 rfl ?_
  refine cbVi (n := 2) (rest := [.int 99]) hx hb hml hown hts hE hP hD hS hA (sX_X7_manPart_1 NF l dC dI cy x0 x 1 0 v f hIv ) k_1260 k_303 k_304 k_104 k_305 hd_yX7_manPart ⟨Nat.le_of_ble_eq_true rfl, Nat.le_of_ble_eq_true rfl⟩ 27 7 rfl rfl (rfl) hl.1 rfl (Nat.le_of_ble_eq_true rfl) dX8_fitsGrown_8 (fun r1 u H locs hw hP hD hS => ?_)
  have hG2 := hw
  refine lv_iload_n hx hb dX8_fitsGrown_11 rfl (lv_at hl 1 rfl) ?_
  refine lv_iload_n hx hb dX8_fitsGrown_12 rfl (lv_at hl 2 rfl) ?_
  refine lv_imul hx hb dX8_fitsGrown_13 ?_
  refine lv_topi (fun t3 et3 => ?_)
  refine lv_iadd hx hb dX8_fitsGrown_14 ?_
  refine lv_topi (fun t4 et4 => ?_)
  refine va_mmin hx hb (by rw [hml]; exact hl.1.symm) hown (hts _ k_1261) (hts _ k_643) (hts _ k_119) (hts _ k_644) (Nat.le_of_ble_eq_true rfl) (Nat.le_of_ble_eq_true rfl) (Nat.le_of_ble_eq_true rfl) (Nat.le_of_ble_eq_true rfl) dX8_fitsGrown_15 ?_
  refine lv_topi (fun t5 et5 => ?_)
  refine lv_istore_n (lv' := [(3, .int t5), (0, .ref (x 35)), (1, .int p1), (2, .int p2)]) hx hb dX8_fitsGrown_18 rfl hl (Nat.le_of_ble_eq_true rfl) rfl (fun ls hl => ?_)
  refine lv_bipush (v := 99) hx hb dX8_fitsGrown_19 rfl ?_
  refine lv_aload_n hx hb dX8_fitsGrown_21 rfl (lv_at hl 1 rfl) ?_
  refine va_get (D := (dC, dI)) (ci := 8) (v := .ref (x 26)) (C := RX8) (T := TX8) (N := 7) hx hb hts inB_8 hown hE.1 hP 36 rfl rfl 0 (Nat.le_of_ble_eq_true rfl) (hts _ k_467) (fun _ h9 => h9) rfl dX8_fitsGrown_22 ?_
  refine lv_iconst (v := 3) hx hb dX8_fitsGrown_25 rfl ?_
  refine lv_iconst (v := 0) hx hb dX8_fitsGrown_26 rfl ?_
  refine cbVi (n := 2) (rest := [.int 99]) hx hb hml hown hts hE hP hD hS hA (sX_X7_coatPart_1 NF l dC dI cy x0 x 3 0 v f hIv ) k_1262 k_311 k_312 k_104 k_313 hd_yX7_coatPart ⟨Nat.le_of_ble_eq_true rfl, Nat.le_of_ble_eq_true rfl⟩ 27 7 rfl rfl (rfl) hl.1 rfl (Nat.le_of_ble_eq_true rfl) dX8_fitsGrown_27 (fun r6 u H locs hw hP hD hS => ?_)
  have hG7 := hw
  refine lv_iload_n hx hb dX8_fitsGrown_30 rfl (lv_at hl 3 rfl) ?_
  refine lv_iadd hx hb dX8_fitsGrown_31 ?_
  refine lv_topi (fun t8 et8 => ?_)
  refine va_mmin hx hb (by rw [hml]; exact hl.1.symm) hown (hts _ k_1261) (hts _ k_643) (hts _ k_119) (hts _ k_644) (Nat.le_of_ble_eq_true rfl) (Nat.le_of_ble_eq_true rfl) (Nat.le_of_ble_eq_true rfl) (Nat.le_of_ble_eq_true rfl) dX8_fitsGrown_32 ?_
  refine lv_topi (fun t9 et9 => ?_)
  refine lv_istore (lv' := [(4, .int t9), (3, .int t5), (0, .ref (x 35)), (1, .int p1), (2, .int p2)]) hx hb dX8_fitsGrown_35 hl (Nat.le_of_ble_eq_true rfl) rfl (fun ls hl => ?_)
  refine lv_aload_n hx hb dX8_fitsGrown_37 rfl (lv_at hl 2 rfl) ?_
  refine va_get (D := (dC, dI)) (ci := 8) (v := .ref (x 26)) (C := RX8) (T := TX8) (N := 7) hx hb hts inB_8 hown hE.1 hP 36 rfl rfl 0 (Nat.le_of_ble_eq_true rfl) (hts _ k_467) (fun _ h9 => h9) rfl dX8_fitsGrown_38 ?_
  refine va_getN (D := (dC, dI)) (ci := 7) (v := .ref (x 15)) (C := RX7) (T := TX7) (N := 10) hx hb hts inB_7 hown hE.1 hP 27 rfl rfl 2 (Nat.le_of_ble_eq_true rfl) (va_Nw.use rfl (hE.2 _ k_208)) (fun _ h9 => h9) rfl dX8_fitsGrown_41 ?_
  refine lv_aload_n hx hb dX8_fitsGrown_44 rfl (lv_at hl 2 rfl) ?_
  refine va_get (D := (dC, dI)) (ci := 8) (v := .ref (x 26)) (C := RX8) (T := TX8) (N := 7) hx hb hts inB_8 hown hE.1 hP 36 rfl rfl 0 (Nat.le_of_ble_eq_true rfl) (hts _ k_467) (fun _ h9 => h9) rfl dX8_fitsGrown_45 ?_
  refine lv_iconst (v := 0) hx hb dX8_fitsGrown_48 rfl ?_
  refine lv_iconst (v := 0) hx hb dX8_fitsGrown_49 rfl ?_
  refine cbVi (n := 2) (rest := [.ref (x 15)]) hx hb hml hown hts hE hP hD hS hA (sX_X7_manPart_1 NF l dC dI cy x0 x 0 0 v f hIv ) k_1260 k_303 k_304 k_104 k_305 hd_yX7_manPart ⟨Nat.le_of_ble_eq_true rfl, Nat.le_of_ble_eq_true rfl⟩ 27 7 rfl rfl (rfl) hl.1 rfl (Nat.le_of_ble_eq_true rfl) dX8_fitsGrown_50 (fun r10 u H locs hw hP hD hS => ?_)
  have hG11 := hw
  refine lv_iload_n hx hb dX8_fitsGrown_53 rfl (lv_at hl 1 rfl) ?_
  refine lv_aload_n hx hb dX8_fitsGrown_54 rfl (lv_at hl 2 rfl) ?_
  refine va_get (D := (dC, dI)) (ci := 8) (v := .ref (x 26)) (C := RX8) (T := TX8) (N := 7) hx hb hts inB_8 hown hE.1 hP 36 rfl rfl 0 (Nat.le_of_ble_eq_true rfl) (hts _ k_467) (fun _ h9 => h9) rfl dX8_fitsGrown_55 ?_
  refine lv_iconst (v := 0) hx hb dX8_fitsGrown_58 rfl ?_
  refine lv_iconst (v := 0) hx hb dX8_fitsGrown_59 rfl ?_
  refine cbVi (n := 2) (rest := [.int t5, .int r10, .ref (x 15)]) hx hb hml hown hts hE hP hD hS hA (sX_X7_coatPart_1 NF l dC dI cy x0 x 0 0 v f hIv ) k_1262 k_311 k_312 k_104 k_313 hd_yX7_coatPart ⟨Nat.le_of_ble_eq_true rfl, Nat.le_of_ble_eq_true rfl⟩ 27 7 rfl rfl (rfl) hl.1 rfl (Nat.le_of_ble_eq_true rfl) dX8_fitsGrown_60 (fun r12 u H locs hw hP hD hS => ?_)
  have hG13 := hw
  refine lv_aload_n hx hb dX8_fitsGrown_63 rfl (lv_at hl 2 rfl) ?_
  refine va_get (D := (dC, dI)) (ci := 8) (v := .ref (x 26)) (C := RX8) (T := TX8) (N := 7) hx hb hts inB_8 hown hE.1 hP 36 rfl rfl 0 (Nat.le_of_ble_eq_true rfl) (hts _ k_467) (fun _ h9 => h9) rfl dX8_fitsGrown_64 ?_
  refine lv_iconst (v := 1) hx hb dX8_fitsGrown_67 rfl ?_
  refine lv_iconst (v := 0) hx hb dX8_fitsGrown_68 rfl ?_
  refine cbVi (n := 2) (rest := [.int r12, .int t5, .int r10, .ref (x 15)]) hx hb hml hown hts hE hP hD hS hA (sX_X7_coatPart_1 NF l dC dI cy x0 x 1 0 v f hIv ) k_1262 k_311 k_312 k_104 k_313 hd_yX7_coatPart ⟨Nat.le_of_ble_eq_true rfl, Nat.le_of_ble_eq_true rfl⟩ 27 7 rfl rfl (rfl) hl.1 rfl (Nat.le_of_ble_eq_true rfl) dX8_fitsGrown_69 (fun r14 u H locs hw hP hD hS => ?_)
  have hG15 := hw
  refine lv_iload hx hb dX8_fitsGrown_72 (lv_at hl 0 rfl) ?_
  refine lv_iload_n hx hb dX8_fitsGrown_74 rfl (lv_at hl 4 rfl) ?_
  refine cbVi (n := 6) (rest := []) hx hb hml hown hts hE hP hD hS hA (sX_X4_worth_1 NF l dC dI cy x0 x r10 t5 r12 r14 t9 p2 v f hIv ) k_1263 k_836 k_837 k_105 k_838 hd_yX4_worth ⟨Nat.le_of_ble_eq_true rfl, Nat.le_of_ble_eq_true rfl⟩ 16 4 rfl rfl (rfl) hl.1 rfl (Nat.le_of_ble_eq_true rfl) dX8_fitsGrown_75 (fun r16 u H locs hw hP hD hS => ?_)
  obtain ⟨hG17, hw⟩ := hw
  obtain ⟨v18, f19⟩ := u
  obtain ⟨kV_v18, kF_f19, hIv18, hk0_v18, hk1_v18, hk7_v18, hk8_v18, hk9_v18, hk10_v18, hk31_v18, hk32_v18⟩ := hw
  have hM_v18 : KV [] v18 v := KV.tr kV_v18 hM_v rfl
  have hA_f19 : KF [13, 14] f19 f := KF.tr kF_f19 hA_f rfl
  have hP : va_P (dC, dI) vwCl (XW cy x0 x v18 f19) H := hP
  have hD : va_D A (XW cy x0 x v18 f19) := hD
  refine lv_aload_n hx hb dX8_fitsGrown_78 rfl (lv_at hl 2 rfl) ?_
  refine va_get (D := (dC, dI)) (ci := 8) (v := .ref (x 26)) (C := RX8) (T := TX8) (N := 7) hx hb hts inB_8 hown hE.1 hP 36 rfl rfl 0 (Nat.le_of_ble_eq_true rfl) (hts _ k_467) (fun _ h9 => h9) rfl dX8_fitsGrown_79 ?_
  refine va_getN (D := (dC, dI)) (ci := 7) (v := .int (v18 33)) (C := RX7) (T := TX7) (N := 10) hx hb hts inB_7 hown hE.1 hP 27 rfl rfl 5 (Nat.le_of_ble_eq_true rfl) (va_Nw.use rfl (hE.2 _ k_231)) (fun _ h9 => h9) rfl dX8_fitsGrown_82 ?_
  refine lv_icmp_gt (tgt := 92) hx hb dX8_fitsGrown_85 rfl (fun c20 => ?_) (fun c20 => ?_)
  · skip
    refine lv_iconst (v := 0) hx hb dX8_fitsGrown_92 rfl ?_
    exact ret 0 (v18, f19) _ _ _ _ _ _ rfl ⟨(gsX_X8_fitsGrown_1_q0 hG2.symm et3 et4 et5 hG7.symm et8 et9 hG11.symm hG13.symm hG15.symm hG17 c20), hM_v18, hA_f19, hIv18, hk0_v18, hk1_v18, hk7_v18, hk8_v18, hk9_v18, hk10_v18, hk31_v18, hk32_v18, (Or.inr rfl)⟩ hP hD hS dX8_fitsGrown_93 (Nat.le_refl _) (Nat.le_refl _)
  · skip
    refine lv_iconst (v := 1) hx hb dX8_fitsGrown_88 rfl ?_
    refine lv_goto (tgt := 93) hx hb dX8_fitsGrown_89 rfl ?_
    exact ret 1 (v18, f19) _ _ _ _ _ _ rfl ⟨(gsX_X8_fitsGrown_1_q1 hG2.symm et3 et4 et5 hG7.symm et8 et9 hG11.symm hG13.symm hG15.symm hG17 c20), hM_v18, hA_f19, hIv18, hk0_v18, hk1_v18, hk7_v18, hk8_v18, hk9_v18, hk10_v18, hk31_v18, hk32_v18, (Or.inl rfl)⟩ hP hD hS dX8_fitsGrown_93 (Nat.le_refl _) (Nat.le_refl _)
set_option maxHeartbeats 4000000 in
set_option maxRecDepth 100000 in
theorem sX_X8_fittingBehind_1 (NF : Nat) (l : Launch) (dC : Nat → ClassId) (dI : Nat → Nat → Nat) (cy : Nat → ClassId) (x0 : Nat) (x : Nat → Nat) (p1 : Int32) (v : Nat → Int32) (f : Nat → Nat → Int32) (hIv : XI v)  : ctI l (dC, dI) cy yX8_fittingBehind cX8_fittingBehind 4 .int 4 135 0 0 ((Nat → Int32) × (Nat → Nat → Int32)) [.ref (x 35), .int p1] (XW cy x0 x v f) (fun r u => gsX_X8_fittingBehind_1 NF p1 v f = (r, u) ∧ KV [] u.1 v ∧ KF [13, 14, 27] u.2 f ∧ XI u.1 ∧ u.1 0 = v 0 ∧ u.1 1 = v 1 ∧ u.1 7 = v 7 ∧ u.1 8 = v 8 ∧ u.1 9 = v 9 ∧ u.1 10 = v 10 ∧ u.1 31 = v 31 ∧ u.1 32 = v 32) (fun u => XW cy x0 x u.1 u.2) := by
  refine ctI_of (by decide) (Nat.le_of_ble_eq_true rfl) (fun p e s m below meth c A ls Q hx hb hml hts hown hE hP hD hA hl ret => ?_)
  have hM_v : KV [] v v := fun _ _ => rfl
  have hA_f : KF [13, 14, 27] f f := fun _ _ => rfl
  have hown : s.vm.findClass RX8 = some m.cls := hown
  have hS : va_S A s.heap s.heap [] := va_S.rf
  have hl : lv_has ls 4 [(0, .ref (x 35)), (1, .int p1)] := hl
  refine lv_iload_n hx hb dX8_fittingBehind_0 rfl (lv_at hl 1 rfl) ?_
  refine lv_if_lt (tgt := 10) hx hb dX8_fittingBehind_1 rfl (fun c1 => ?_) (fun c1 => ?_)
  · skip
    refine lv_iconst (v := 0) hx hb dX8_fittingBehind_10 rfl ?_
    exact ret 0 (v, f) _ _ _ _ _ _ rfl ⟨(gsX_X8_fittingBehind_1_q0 c1), hM_v, hA_f, hIv, rfl, rfl, rfl, rfl, rfl, rfl, rfl, rfl⟩ hP hD hS dX8_fittingBehind_11 (Nat.le_refl _) (Nat.le_refl _)
  · skip
    have zc1 : ¬ (p1.toInt < 0) := zLn rfl tc_0 c1
    refine lv_iload_n hx hb dX8_fittingBehind_4 rfl (lv_at hl 1 rfl) ?_
    refine lv_bipush (v := 20) hx hb dX8_fittingBehind_5 rfl ?_
    refine lv_icmp_le (tgt := 12) hx hb dX8_fittingBehind_7 rfl (fun c2 => ?_) (fun c2 => ?_)
    · skip
      have zc2 : p1.toInt ≤ 20 := zMp rfl tc_20 c2
      refine lv_aload_n hx hb dX8_fittingBehind_12 rfl (lv_at hl 0 rfl) ?_
      refine va_get (D := (dC, dI)) (ci := 8) (v := .ref (x 40)) (C := RX8) (T := TX8) (N := 7) hx hb hts inB_8 hown hE.1 hP 36 rfl rfl 6 (Nat.le_of_ble_eq_true rfl) (hts _ k_474) (fun _ h9 => h9) rfl dX8_fittingBehind_13 ?_
      refine lv_iload_n hx hb dX8_fittingBehind_16 rfl (lv_at hl 1 rfl) ?_
      refine ldI hx hb hE hP 41 rfl (vpI (k := 21) rfl (show 0 ≤ p1.toInt from om_14 zc1) (show p1.toInt < 21 from om_183 zc2)) rfl rfl dX8_fittingBehind_17 ?_
      refine lv_topi (fun t3 et3 => ?_)
      refine lv_iconst (v := (-1)) hx hb dX8_fittingBehind_18 rfl ?_
      refine lv_icmp_ne (tgt := 60) hx hb dX8_fittingBehind_19 rfl (fun c4 => ?_) (fun c4 => ?_)
      · skip
        refine lv_aload_n hx hb dX8_fittingBehind_60 rfl (lv_at hl 0 rfl) ?_
        refine va_get (D := (dC, dI)) (ci := 8) (v := .ref (x 40)) (C := RX8) (T := TX8) (N := 7) hx hb hts inB_8 hown hE.1 hP 36 rfl rfl 6 (Nat.le_of_ble_eq_true rfl) (hts _ k_474) (fun _ h9 => h9) rfl dX8_fittingBehind_61 ?_
        refine lv_iload_n hx hb dX8_fittingBehind_64 rfl (lv_at hl 1 rfl) ?_
        refine ldI hx hb hE hP 41 rfl (vpI (k := 21) rfl (show 0 ≤ p1.toInt from om_14 zc1) (show p1.toInt < 21 from om_183 zc2)) rfl rfl dX8_fittingBehind_65 ?_
        refine lv_topi (fun t5 et5 => ?_)
        exact ret t5 (v, f) _ _ _ _ _ _ rfl ⟨(gsX_X8_fittingBehind_1_q1 c1 c2 et3 c4 et5), hM_v, hA_f, hIv, rfl, rfl, rfl, rfl, rfl, rfl, rfl, rfl⟩ hP hD hS dX8_fittingBehind_66 (Nat.le_refl _) (Nat.le_refl _)
      · skip
        refine lv_iconst (v := 0) hx hb dX8_fittingBehind_22 rfl ?_
        refine lv_istore_n (lv' := [(2, .int 0), (0, .ref (x 35)), (1, .int p1)]) hx hb dX8_fittingBehind_23 rfl hl (Nat.le_of_ble_eq_true rfl) rfl (fun ls hl => ?_)
        refine lv_iconst (v := 0) hx hb dX8_fittingBehind_24 rfl ?_
        refine lv_istore_n (lv' := [(3, .int 0), (2, .int 0), (0, .ref (x 35)), (1, .int p1)]) hx hb dX8_fittingBehind_25 rfl hl (Nat.le_of_ble_eq_true rfl) rfl (fun ls hl => ?_)
        have lp6 : ∀ (n6 : Nat) (l2_6 : Int32) (l3_6 : Int32) (v6 : Nat → Int32) (f6 : Nat → Nat → Int32), XI v6 → v6 0 = (v 0) → v6 1 = (v 1) → v6 7 = (v 7) → v6 8 = (v 8) → v6 9 = (v 9) → v6 10 = (v 10) → v6 31 = (v 31) → v6 32 = (v 32) → gsX_X8_fittingBehind_1_L6 NF p1 n6 l2_6 l3_6 v6 f6 = (gsX_X8_fittingBehind_1 NF p1 v f) → ((0 : Int) ≤ l3_6.toInt ∧ l3_6.toInt ≤ 2147483647) → KV [] v6 v → KF [13, 14, 27] f6 f → (2147483647 - l3_6.toInt).toNat < n6 → ∀ (H : Heap) (locs : List Loc) (ls : Array Slot), va_P (dC, dI) vwCl (XW cy x0 x v6 f6) H → va_D A (XW cy x0 x v6 f6) → va_S A s.heap H locs → lv_has ls 4 [(3, .int l3_6), (2, .int l2_6), (0, .ref (x 35)), (1, .int p1)] → W p l e { frames := 4, cells := 0, slots := 0, locals := 135 } s m ([.ref (x 35), .int p1] : List Value).toArray below meth c H locs 0 0 Q (F0 m 26 ls []) := by
          intro n6
          induction n6 with
          | zero => intro l2_6 l3_6 v6 f6 hIv6 hq0_v6 hq1_v6 hq7_v6 hq8_v6 hq9_v6 hq10_v6 hq31_v6 hq32_v6 hT6 hr3_6 hM_v6 hA_f6 hm; exact absurd hm (Nat.not_lt_zero _)
          | succ n6 ih6 =>
            intro l2_6 l3_6 v6 f6 hIv6 hq0_v6 hq1_v6 hq7_v6 hq8_v6 hq9_v6 hq10_v6 hq31_v6 hq32_v6 hT6 hr3_6 hM_v6 hA_f6 hm6 H locs ls hP hD hS hl
            refine lv_iload_n hx hb dX8_fittingBehind_26 rfl (lv_at hl 0 rfl) ?_
            refine lv_bipush (v := 30) hx hb dX8_fittingBehind_27 rfl ?_
            refine lv_icmp_gt (tgt := 53) hx hb dX8_fittingBehind_29 rfl (fun c7 => ?_) (fun c7 => ?_)
            · skip
              refine lv_aload_n hx hb dX8_fittingBehind_53 rfl (lv_at hl 2 rfl) ?_
              refine va_get (D := (dC, dI)) (ci := 8) (v := .ref (x 40)) (C := RX8) (T := TX8) (N := 7) hx hb hts inB_8 hown hE.1 hP 36 rfl rfl 6 (Nat.le_of_ble_eq_true rfl) (hts _ k_474) (fun _ h9 => h9) rfl dX8_fittingBehind_54 ?_
              refine lv_iload_n hx hb dX8_fittingBehind_57 rfl (lv_at hl 3 rfl) ?_
              refine lv_iload_n hx hb dX8_fittingBehind_58 rfl (lv_at hl 1 rfl) ?_
              refine stI hx hb hE hP hD hS 41 rfl (vpI (k := 21) rfl (show 0 ≤ p1.toInt from om_14 zc1) (show p1.toInt < 21 from om_183 zc2)) rfl dX8_fittingBehind_59 (fun H locs hP hD hS => ?_)
              obtain ⟨f8, ef8, hP, hD⟩ : ∃ fz9, fz9 = upd2 f6 27 (upd (f6 27) p1.toNatClampNeg l2_6) ∧ va_P (dC, dI) vwCl (XW cy x0 x v6 fz9) H ∧ va_D A (XW cy x0 x v6 fz9) := ⟨_, rfl, hP, hD⟩
              have hA_f8 : KF [13, 14, 27] f8 f := by rw [ef8]; exact KF.up hA_f6 rfl
              refine lv_aload_n hx hb dX8_fittingBehind_60 rfl (lv_at hl 2 rfl) ?_
              refine va_get (D := (dC, dI)) (ci := 8) (v := .ref (x 40)) (C := RX8) (T := TX8) (N := 7) hx hb hts inB_8 hown hE.1 hP 36 rfl rfl 6 (Nat.le_of_ble_eq_true rfl) (hts _ k_474) (fun _ h9 => h9) rfl dX8_fittingBehind_61 ?_
              refine lv_iload_n hx hb dX8_fittingBehind_64 rfl (lv_at hl 3 rfl) ?_
              refine ldI hx hb hE hP 41 rfl (vpI (k := 21) rfl (show 0 ≤ p1.toInt from om_14 zc1) (show p1.toInt < 21 from om_183 zc2)) rfl rfl dX8_fittingBehind_65 ?_
              refine lv_topi (fun t9 et9 => ?_)
              exact ret t9 (v6, f8) _ _ _ _ _ _ rfl ⟨(hT6.symm.trans (gsX_X8_fittingBehind_1_q2 c7 ef8 et9)), hM_v6, hA_f8, hIv6, (show v6 0 = v 0 from hq0_v6), (show v6 1 = v 1 from hq1_v6), (show v6 7 = v 7 from hq7_v6), (show v6 8 = v 8 from hq8_v6), (show v6 9 = v 9 from hq9_v6), (show v6 10 = v 10 from hq10_v6), (show v6 31 = v 31 from hq31_v6), (show v6 32 = v 32 from hq32_v6)⟩ hP hD hS dX8_fittingBehind_66 (Nat.le_refl _) (Nat.le_refl _)
            · skip
              have zc7 : ¬ (30 < l3_6.toInt) := zLn tc_30 rfl c7
              refine lv_aload_n hx hb dX8_fittingBehind_32 rfl (lv_at hl 2 rfl) ?_
              refine lv_iload_n hx hb dX8_fittingBehind_33 rfl (lv_at hl 0 rfl) ?_
              refine lv_iload_n hx hb dX8_fittingBehind_34 rfl (lv_at hl 3 rfl) ?_
              refine cbVi (n := 2) (rest := []) hx hb hml hown hts hE hP hD hS hA (sX_X8_fitsGrown_1 NF l dC dI cy x0 x l3_6 p1 v6 f6 hIv6 ) k_1256 k_1258 k_39 k_112 k_1259 hd_yX8_fitsGrown ⟨Nat.le_of_ble_eq_true rfl, Nat.le_of_ble_eq_true rfl⟩ 36 8 rfl rfl (rfl) hl.1 rfl (Nat.le_of_ble_eq_true rfl) dX8_fittingBehind_35 (fun r10 u H locs hw hP hD hS => ?_)
              obtain ⟨hG11, hw⟩ := hw
              obtain ⟨v12, f13⟩ := u
              obtain ⟨kV_v12, kF_f13, hIv12, hk0_v12, hk1_v12, hk7_v12, hk8_v12, hk9_v12, hk10_v12, hk31_v12, hk32_v12, hw⟩ := hw
              have hM_v12 : KV [] v12 v := KV.tr kV_v12 hM_v6 rfl
              have hA_f13 : KF [13, 14, 27] f13 f := KF.tr kF_f13 hA_f6 rfl
              have hP : va_P (dC, dI) vwCl (XW cy x0 x v12 f13) H := hP
              have hD : va_D A (XW cy x0 x v12 f13) := hD
              have hq0_v12 : v12 0 = (v 0) := hk0_v12.trans hq0_v6
              have hq1_v12 : v12 1 = (v 1) := hk1_v12.trans hq1_v6
              have hq7_v12 : v12 7 = (v 7) := hk7_v12.trans hq7_v6
              have hq8_v12 : v12 8 = (v 8) := hk8_v12.trans hq8_v6
              have hq9_v12 : v12 9 = (v 9) := hk9_v12.trans hq9_v6
              have hq10_v12 : v12 10 = (v 10) := hk10_v12.trans hq10_v6
              have hq31_v12 : v12 31 = (v 31) := hk31_v12.trans hq31_v6
              have hq32_v12 : v12 32 = (v 32) := hk32_v12.trans hq32_v6
              rcases hw with ⟨g14⟩ | ⟨g14⟩
              · skip
                subst g14
                refine lv_if_eq (tgt := 47) hx hb dX8_fittingBehind_38 rfl (fun c0 => absurd c0 (by decide)) (fun _ => ?_)
                refine lv_iload_n hx hb dX8_fittingBehind_41 rfl (lv_at hl 1 rfl) ?_
                refine lv_iconst (v := 1) hx hb dX8_fittingBehind_42 rfl ?_
                refine lv_iload_n hx hb dX8_fittingBehind_43 rfl (lv_at hl 0 rfl) ?_
                refine lv_ishl hx hb dX8_fittingBehind_44 ?_
                refine lv_topi (fun t15 et15 => ?_)
                refine lv_ior hx hb dX8_fittingBehind_45 ?_
                refine lv_topi (fun t16 et16 => ?_)
                refine lv_istore_n (lv' := [(2, .int t16), (3, .int l3_6), (0, .ref (x 35)), (1, .int p1)]) hx hb dX8_fittingBehind_46 rfl hl (Nat.le_of_ble_eq_true rfl) rfl (fun ls hl => ?_)
                obtain ⟨t17, et17⟩ : ∃ y : Int32, y = l3_6 + 1 := ⟨_, rfl⟩
                have zt17 : t17.toInt = l3_6.toInt + 1 := (congrArg Int32.toInt et17).trans (add_i rfl tc_1 (om_41 hr3_6) (om_184 zc7))
                refine lv_iinc (v := t17) (lv' := [(3, .int t17), (2, .int t16), (0, .ref (x 35)), (1, .int p1)]) hx hb dX8_fittingBehind_47 hl (k := 1) rfl et17.symm (Nat.le_of_ble_eq_true rfl) rfl (fun ls hl => ?_)
                refine lv_goto (tgt := 26) hx hb dX8_fittingBehind_50 rfl ?_
                have rg19 := fb_rng t17
                exact ih6 t16 t17 v12 f13 hIv12 hq0_v12 hq1_v12 hq7_v12 hq8_v12 hq9_v12 hq10_v12 hq31_v12 hq32_v12 ((gsX_X8_fittingBehind_1_q3 c7 hG11 et15 et16 et17).symm.trans hT6) ⟨show (0 : Int) ≤ t17.toInt from om_43 hr3_6 zt17, show t17.toInt ≤ (2147483647 : Int) from om_44 rg19⟩ hM_v12 hA_f13 (show (2147483647 - t17.toInt).toNat < n6 from om_33 hm6 zt17 rg19) _ _ _ hP hD hS (lv_sub hl [0, 1, 2, 3] rfl)
              · skip
                subst g14
                refine lv_if_eq (tgt := 47) hx hb dX8_fittingBehind_38 rfl (fun _ => ?_) (fun c0 => absurd (by decide) c0)
                obtain ⟨t20, et20⟩ : ∃ y : Int32, y = l3_6 + 1 := ⟨_, rfl⟩
                have zt20 : t20.toInt = l3_6.toInt + 1 := (congrArg Int32.toInt et20).trans (add_i rfl tc_1 (om_41 hr3_6) (om_184 zc7))
                refine lv_iinc (v := t20) (lv' := [(3, .int t20), (2, .int l2_6), (0, .ref (x 35)), (1, .int p1)]) hx hb dX8_fittingBehind_47 hl (k := 0) rfl et20.symm (Nat.le_of_ble_eq_true rfl) rfl (fun ls hl => ?_)
                refine lv_goto (tgt := 26) hx hb dX8_fittingBehind_50 rfl ?_
                have rg22 := fb_rng t20
                exact ih6 l2_6 t20 v12 f13 hIv12 hq0_v12 hq1_v12 hq7_v12 hq8_v12 hq9_v12 hq10_v12 hq31_v12 hq32_v12 ((gsX_X8_fittingBehind_1_q4 c7 hG11 et20).symm.trans hT6) ⟨show (0 : Int) ≤ t20.toInt from om_43 hr3_6 zt20, show t20.toInt ≤ (2147483647 : Int) from om_44 rg22⟩ hM_v12 hA_f13 (show (2147483647 - t20.toInt).toNat < n6 from om_33 hm6 zt20 rg22) _ _ _ hP hD hS (lv_sub hl [0, 1, 2, 3] rfl)
        exact lp6 (4294967296 + NF) 0 0 v f hIv rfl rfl rfl rfl rfl rfl rfl rfl (gsX_X8_fittingBehind_1_q5 c1 c2 et3 c4).symm ⟨by decide, by decide⟩ hM_v hA_f (show (2147483647 - (0 : Int32).toInt).toNat < 4294967296 + NF from om_38 tc_0) _ _ _ hP hD hS (lv_sub hl [0, 1, 2, 3] rfl)
    · skip
      refine lv_iconst (v := 0) hx hb dX8_fittingBehind_10 rfl ?_
      exact ret 0 (v, f) _ _ _ _ _ _ rfl ⟨(gsX_X8_fittingBehind_1_q6 c1 c2), hM_v, hA_f, hIv, rfl, rfl, rfl, rfl, rfl, rfl, rfl, rfl⟩ hP hD hS dX8_fittingBehind_11 (Nat.le_refl _) (Nat.le_refl _)
set_option maxHeartbeats 4000000 in
set_option maxRecDepth 100000 in
theorem sX_X8_growthsAt_1 (NF : Nat) (l : Launch) (dC : Nat → ClassId) (dI : Nat → Nat → Nat) (cy : Nat → ClassId) (x0 : Nat) (x : Nat → Nat) (p1 : Int32) (v : Nat → Int32) (f : Nat → Nat → Int32) (hIv : XI v)  : ctI l (dC, dI) cy yX8_growthsAt cX8_growthsAt 6 .int 5 158 0 0 ((Nat → Int32) × (Nat → Nat → Int32)) [.ref (x 35), .int p1] (XW cy x0 x v f) (fun r u => gsX_X8_growthsAt_1 NF p1 v f = (r, u) ∧ KV [] u.1 v ∧ KF [13, 14, 27] u.2 f ∧ XI u.1 ∧ u.1 0 = v 0 ∧ u.1 1 = v 1 ∧ u.1 7 = v 7 ∧ u.1 8 = v 8 ∧ u.1 9 = v 9 ∧ u.1 10 = v 10 ∧ u.1 31 = v 31 ∧ u.1 32 = v 32) (fun u => XW cy x0 x u.1 u.2) := by
  refine ctI_of (by decide) (Nat.le_of_ble_eq_true rfl) (fun p e s m below meth c A ls Q hx hb hml hts hown hE hP hD hA hl ret => ?_)
  have hM_v : KV [] v v := fun _ _ => rfl
  have hA_f : KF [13, 14, 27] f f := fun _ _ => rfl
  have hown : s.vm.findClass RX8 = some m.cls := hown
  have hS : va_S A s.heap s.heap [] := va_S.rf
  have hl : lv_has ls 6 [(0, .ref (x 35)), (1, .int p1)] := hl
  refine lv_aload_n hx hb dX8_growthsAt_0 rfl (lv_at hl 0 rfl) ?_
  refine va_get (D := (dC, dI)) (ci := 8) (v := .ref (x 26)) (C := RX8) (T := TX8) (N := 7) hx hb hts inB_8 hown hE.1 hP 36 rfl rfl 0 (Nat.le_of_ble_eq_true rfl) (hts _ k_467) (fun _ h9 => h9) rfl dX8_growthsAt_1 ?_
  refine va_getN (D := (dC, dI)) (ci := 7) (v := .int (v 31)) (C := RX7) (T := TX7) (N := 10) hx hb hts inB_7 hown hE.1 hP 27 rfl rfl 3 (Nat.le_of_ble_eq_true rfl) (va_Nw.use rfl (hE.2 _ k_215)) (fun _ h9 => h9) rfl dX8_growthsAt_4 ?_
  refine lv_if_eq (tgt := 20) hx hb dX8_growthsAt_7 rfl (fun c1 => ?_) (fun c1 => ?_)
  · skip
    refine lv_iconst (v := 0) hx hb dX8_growthsAt_20 rfl ?_
    exact ret 0 (v, f) _ _ _ _ _ _ rfl ⟨(gsX_X8_growthsAt_1_q0 c1), hM_v, hA_f, hIv, rfl, rfl, rfl, rfl, rfl, rfl, rfl, rfl⟩ hP hD hS dX8_growthsAt_21 (Nat.le_refl _) (Nat.le_refl _)
  · skip
    refine lv_aload_n hx hb dX8_growthsAt_10 rfl (lv_at hl 0 rfl) ?_
    refine va_get (D := (dC, dI)) (ci := 8) (v := .ref (x 26)) (C := RX8) (T := TX8) (N := 7) hx hb hts inB_8 hown hE.1 hP 36 rfl rfl 0 (Nat.le_of_ble_eq_true rfl) (hts _ k_467) (fun _ h9 => h9) rfl dX8_growthsAt_11 ?_
    refine va_getN (D := (dC, dI)) (ci := 7) (v := .int (v 32)) (C := RX7) (T := TX7) (N := 10) hx hb hts inB_7 hown hE.1 hP 27 rfl rfl 4 (Nat.le_of_ble_eq_true rfl) (va_Nw.use rfl (hE.2 _ k_221)) (fun _ h9 => h9) rfl dX8_growthsAt_14 ?_
    refine lv_if_ne (tgt := 22) hx hb dX8_growthsAt_17 rfl (fun c2 => ?_) (fun c2 => ?_)
    · skip
      refine lv_ldc (v := 2147483647) hx hb hown (hts _ k_1251) dX8_growthsAt_22 ?_
      refine lv_istore_n (lv' := [(2, .int 2147483647), (0, .ref (x 35)), (1, .int p1)]) hx hb dX8_growthsAt_24 rfl hl (Nat.le_of_ble_eq_true rfl) rfl (fun ls hl => ?_)
      refine lv_iconst (v := 0) hx hb dX8_growthsAt_25 rfl ?_
      refine lv_istore_n (lv' := [(3, .int 0), (2, .int 2147483647), (0, .ref (x 35)), (1, .int p1)]) hx hb dX8_growthsAt_26 rfl hl (Nat.le_of_ble_eq_true rfl) rfl (fun ls hl => ?_)
      have lp3 : ∀ (n3 : Nat) (l2_3 : Int32) (l3_3 : Int32) (v3 : Nat → Int32) (f3 : Nat → Nat → Int32), XI v3 → v3 0 = (v 0) → v3 1 = (v 1) → v3 7 = (v 7) → v3 8 = (v 8) → v3 9 = (v 9) → v3 10 = (v 10) → v3 31 = (v 31) → v3 32 = (v 32) → gsX_X8_growthsAt_1_L3 NF p1 n3 l2_3 l3_3 v3 f3 = (gsX_X8_growthsAt_1 NF p1 v f) → ((0 : Int) ≤ l3_3.toInt ∧ l3_3.toInt ≤ 2147483647) → KV [] v3 v → KF [13, 14, 27] f3 f → (2147483647 - l3_3.toInt).toNat < n3 → ∀ (H : Heap) (locs : List Loc) (ls : Array Slot), va_P (dC, dI) vwCl (XW cy x0 x v3 f3) H → va_D A (XW cy x0 x v3 f3) → va_S A s.heap H locs → lv_has ls 6 [(3, .int l3_3), (2, .int l2_3), (0, .ref (x 35)), (1, .int p1)] → W p l e { frames := 5, cells := 0, slots := 0, locals := 158 } s m ([.ref (x 35), .int p1] : List Value).toArray below meth c H locs 0 0 Q (F0 m 27 ls []) := by
        intro n3
        induction n3 with
        | zero => intro l2_3 l3_3 v3 f3 hIv3 hq0_v3 hq1_v3 hq7_v3 hq8_v3 hq9_v3 hq10_v3 hq31_v3 hq32_v3 hT3 hr3_3 hM_v3 hA_f3 hm; exact absurd hm (Nat.not_lt_zero _)
        | succ n3 ih3 =>
          intro l2_3 l3_3 v3 f3 hIv3 hq0_v3 hq1_v3 hq7_v3 hq8_v3 hq9_v3 hq10_v3 hq31_v3 hq32_v3 hT3 hr3_3 hM_v3 hA_f3 hm3 H locs ls hP hD hS hl
          refine lv_iload_n hx hb dX8_growthsAt_27 rfl (lv_at hl 0 rfl) ?_
          refine lv_aload_n hx hb dX8_growthsAt_28 rfl (lv_at hl 2 rfl) ?_
          refine va_get (D := (dC, dI)) (ci := 8) (v := .int (v3 41)) (C := RX8) (T := TX8) (N := 7) hx hb hts inB_8 hown hE.1 hP 36 rfl rfl 5 (Nat.le_of_ble_eq_true rfl) (hts _ k_472) (fun _ h9 => h9) rfl dX8_growthsAt_29 ?_
          refine lv_icmp_ge (tgt := 122) hx hb dX8_growthsAt_32 rfl (fun c4 => ?_) (fun c4 => ?_)
          · skip
            refine lv_iload_n hx hb dX8_growthsAt_122 rfl (lv_at hl 1 rfl) ?_
            exact ret l2_3 (v3, f3) _ _ _ _ _ _ rfl ⟨(hT3.symm.trans (gsX_X8_growthsAt_1_q1 c4)), hM_v3, hA_f3, hIv3, (show v3 0 = v 0 from hq0_v3), (show v3 1 = v 1 from hq1_v3), (show v3 7 = v 7 from hq7_v3), (show v3 8 = v 8 from hq8_v3), (show v3 9 = v 9 from hq9_v3), (show v3 10 = v 10 from hq10_v3), (show v3 31 = v 31 from hq31_v3), (show v3 32 = v 32 from hq32_v3)⟩ hP hD hS dX8_growthsAt_123 (Nat.le_refl _) (Nat.le_refl _)
          · skip
            refine lv_iload_n hx hb dX8_growthsAt_35 rfl (lv_at hl 0 rfl) ?_
            refine lv_bipush (v := 30) hx hb dX8_growthsAt_36 rfl ?_
            refine lv_icmp_ge (tgt := 122) hx hb dX8_growthsAt_38 rfl (fun c9 => ?_) (fun c9 => ?_)
            · skip
              refine lv_iload_n hx hb dX8_growthsAt_122 rfl (lv_at hl 1 rfl) ?_
              exact ret l2_3 (v3, f3) _ _ _ _ _ _ rfl ⟨(hT3.symm.trans (gsX_X8_growthsAt_1_q2 c4 c9)), hM_v3, hA_f3, hIv3, (show v3 0 = v 0 from hq0_v3), (show v3 1 = v 1 from hq1_v3), (show v3 7 = v 7 from hq7_v3), (show v3 8 = v 8 from hq8_v3), (show v3 9 = v 9 from hq9_v3), (show v3 10 = v 10 from hq10_v3), (show v3 31 = v 31 from hq31_v3), (show v3 32 = v 32 from hq32_v3)⟩ hP hD hS dX8_growthsAt_123 (Nat.le_refl _) (Nat.le_refl _)
            · skip
              have zc9 : ¬ (30 ≤ l3_3.toInt) := zMn tc_30 rfl c9
              refine lv_aload_n hx hb dX8_growthsAt_41 rfl (lv_at hl 2 rfl) ?_
              refine va_get (D := (dC, dI)) (ci := 8) (v := .ref (x 39)) (C := RX8) (T := TX8) (N := 7) hx hb hts inB_8 hown hE.1 hP 36 rfl rfl 4 (Nat.le_of_ble_eq_true rfl) (hts _ k_471) (fun _ h9 => h9) rfl dX8_growthsAt_42 ?_
              refine lv_iload_n hx hb dX8_growthsAt_45 rfl (lv_at hl 0 rfl) ?_
              refine ldI hx hb hE hP 40 rfl (vpI (k := 30) rfl (show 0 ≤ l3_3.toInt from om_39 hr3_3) (show l3_3.toInt < 30 from om_134 zc9)) rfl rfl dX8_growthsAt_46 ?_
              refine lv_topi (fun t10 et10 => ?_)
              refine lv_iconst (v := (-1)) hx hb dX8_growthsAt_47 rfl ?_
              refine lv_icmp_eq (tgt := 65) hx hb dX8_growthsAt_48 rfl (fun c11 => ?_) (fun c11 => ?_)
              · skip
                refine lv_iconst (v := 0) hx hb dX8_growthsAt_65 rfl ?_
                refine lv_istore (lv' := [(4, .int 0), (3, .int l3_3), (2, .int l2_3), (0, .ref (x 35)), (1, .int p1)]) hx hb dX8_growthsAt_66 hl (Nat.le_of_ble_eq_true rfl) rfl (fun ls hl => ?_)
                refine lv_aload_n hx hb dX8_growthsAt_68 rfl (lv_at hl 3 rfl) ?_
                refine va_get (D := (dC, dI)) (ci := 8) (v := .ref (x 38)) (C := RX8) (T := TX8) (N := 7) hx hb hts inB_8 hown hE.1 hP 36 rfl rfl 3 (Nat.le_of_ble_eq_true rfl) (hts _ k_470) (fun _ h9 => h9) rfl dX8_growthsAt_69 ?_
                refine lv_iload_n hx hb dX8_growthsAt_72 rfl (lv_at hl 1 rfl) ?_
                refine ldI hx hb hE hP 39 rfl (vpI (k := 30) rfl (show 0 ≤ l3_3.toInt from om_39 hr3_3) (show l3_3.toInt < 30 from om_134 zc9)) rfl rfl dX8_growthsAt_73 ?_
                refine lv_topi (fun t12 et12 => ?_)
                refine lv_iload_n hx hb dX8_growthsAt_74 rfl (lv_at hl 4 rfl) ?_
                refine lv_icmp_gt (tgt := 116) hx hb dX8_growthsAt_75 rfl (fun c13 => ?_) (fun c13 => ?_)
                · skip
                  obtain ⟨t16, et16⟩ : ∃ y : Int32, y = l3_3 + 1 := ⟨_, rfl⟩
                  have zt16 : t16.toInt = l3_3.toInt + 1 := (congrArg Int32.toInt et16).trans (add_i rfl tc_1 (om_41 hr3_3) (om_153 zc9))
                  refine lv_iinc (v := t16) (lv' := [(3, .int t16), (4, .int 0), (2, .int l2_3), (0, .ref (x 35)), (1, .int p1)]) hx hb dX8_growthsAt_116 hl (k := 1) rfl et16.symm (Nat.le_of_ble_eq_true rfl) rfl (fun ls hl => ?_)
                  refine lv_goto (tgt := 27) hx hb dX8_growthsAt_119 rfl ?_
                  have rg17 := fb_rng t16
                  exact ih3 l2_3 t16 v3 f3 hIv3 hq0_v3 hq1_v3 hq7_v3 hq8_v3 hq9_v3 hq10_v3 hq31_v3 hq32_v3 ((gsX_X8_growthsAt_1_q3 c4 c9 et10 c11 et12 c13 et16).symm.trans hT3) ⟨show (0 : Int) ≤ t16.toInt from om_43 hr3_3 zt16, show t16.toInt ≤ (2147483647 : Int) from om_44 rg17⟩ hM_v3 hA_f3 (show (2147483647 - t16.toInt).toNat < n3 from om_33 hm3 zt16 rg17) _ _ _ hP hD hS (lv_sub hl [0, 2, 3, 4] rfl)
                · skip
                  refine lv_iload hx hb dX8_growthsAt_78 (lv_at hl 0 rfl) ?_
                  refine lv_if_ne (tgt := 116) hx hb dX8_growthsAt_80 rfl (fun c0 => absurd (by decide) c0) (fun _ => ?_)
                  refine lv_aload_n hx hb dX8_growthsAt_83 rfl (lv_at hl 3 rfl) ?_
                  refine lv_aload_n hx hb dX8_growthsAt_84 rfl (lv_at hl 3 rfl) ?_
                  refine va_get (D := (dC, dI)) (ci := 8) (v := .ref (x 36)) (C := RX8) (T := TX8) (N := 7) hx hb hts inB_8 hown hE.1 hP 36 rfl rfl 1 (Nat.le_of_ble_eq_true rfl) (hts _ k_468) (fun _ h9 => h9) rfl dX8_growthsAt_85 ?_
                  refine lv_iload_n hx hb dX8_growthsAt_88 rfl (lv_at hl 1 rfl) ?_
                  refine ldI hx hb hE hP 37 rfl (vpI (k := 30) rfl (show 0 ≤ l3_3.toInt from om_39 hr3_3) (show l3_3.toInt < 30 from om_134 zc9)) rfl rfl dX8_growthsAt_89 ?_
                  refine lv_topi (fun t20 et20 => ?_)
                  refine cbVi (n := 1) (rest := []) hx hb hml hown hts hE hP hD hS hA (sX_X8_fittingBehind_1 NF l dC dI cy x0 x t20 v3 f3 hIv3 ) k_1252 k_1254 k_38 k_112 k_1255 hd_yX8_fittingBehind ⟨Nat.le_of_ble_eq_true rfl, Nat.le_of_ble_eq_true rfl⟩ 36 8 rfl rfl (rfl) hl.1 rfl (Nat.le_of_ble_eq_true rfl) dX8_growthsAt_90 (fun r21 u H locs hw hP hD hS => ?_)
                  obtain ⟨hG22, hw⟩ := hw
                  obtain ⟨v23, f24⟩ := u
                  obtain ⟨kV_v23, kF_f24, hIv23, hk0_v23, hk1_v23, hk7_v23, hk8_v23, hk9_v23, hk10_v23, hk31_v23, hk32_v23⟩ := hw
                  have hM_v23 : KV [] v23 v := KV.tr kV_v23 hM_v3 rfl
                  have hA_f24 : KF [13, 14, 27] f24 f := KF.tr kF_f24 hA_f3 rfl
                  have hP : va_P (dC, dI) vwCl (XW cy x0 x v23 f24) H := hP
                  have hD : va_D A (XW cy x0 x v23 f24) := hD
                  have hq0_v23 : v23 0 = (v 0) := hk0_v23.trans hq0_v3
                  have hq1_v23 : v23 1 = (v 1) := hk1_v23.trans hq1_v3
                  have hq7_v23 : v23 7 = (v 7) := hk7_v23.trans hq7_v3
                  have hq8_v23 : v23 8 = (v 8) := hk8_v23.trans hq8_v3
                  have hq9_v23 : v23 9 = (v 9) := hk9_v23.trans hq9_v3
                  have hq10_v23 : v23 10 = (v 10) := hk10_v23.trans hq10_v3
                  have hq31_v23 : v23 31 = (v 31) := hk31_v23.trans hq31_v3
                  have hq32_v23 : v23 32 = (v 32) := hk32_v23.trans hq32_v3
                  refine lv_istore (lv' := [(5, .int r21), (4, .int 0), (3, .int l3_3), (2, .int l2_3), (0, .ref (x 35)), (1, .int p1)]) hx hb dX8_growthsAt_93 hl (Nat.le_of_ble_eq_true rfl) rfl (fun ls hl => ?_)
                  refine lv_iload_n hx hb dX8_growthsAt_95 rfl (lv_at hl 3 rfl) ?_
                  refine lv_aload_n hx hb dX8_growthsAt_96 rfl (lv_at hl 4 rfl) ?_
                  refine va_get (D := (dC, dI)) (ci := 8) (v := .ref (x 37)) (C := RX8) (T := TX8) (N := 7) hx hb hts inB_8 hown hE.1 hP 36 rfl rfl 2 (Nat.le_of_ble_eq_true rfl) (hts _ k_469) (fun _ h9 => h9) rfl dX8_growthsAt_97 ?_
                  refine lv_iload_n hx hb dX8_growthsAt_100 rfl (lv_at hl 2 rfl) ?_
                  refine ldZ hx hb hE hP 38 rfl (vpI (k := 30) rfl (show 0 ≤ l3_3.toInt from om_39 hr3_3) (show l3_3.toInt < 30 from om_134 zc9)) rfl rfl dX8_growthsAt_101 ?_
                  refine lv_topi (fun t25 et25 => ?_)
                  refine lv_if_eq (tgt := 110) hx hb dX8_growthsAt_102 rfl (fun c26 => ?_) (fun c26 => ?_)
                  · skip
                    refine lv_iload hx hb dX8_growthsAt_110 (lv_at hl 0 rfl) ?_
                    refine lv_iconst (v := (-1)) hx hb dX8_growthsAt_112 rfl ?_
                    refine lv_ixor hx hb dX8_growthsAt_113 ?_
                    refine lv_topi (fun t27 et27 => ?_)
                    refine lv_iand hx hb dX8_growthsAt_114 ?_
                    refine lv_topi (fun t28 et28 => ?_)
                    refine lv_istore_n (lv' := [(2, .int t28), (5, .int r21), (4, .int 0), (3, .int l3_3), (0, .ref (x 35)), (1, .int p1)]) hx hb dX8_growthsAt_115 rfl hl (Nat.le_of_ble_eq_true rfl) rfl (fun ls hl => ?_)
                    obtain ⟨t29, et29⟩ : ∃ y : Int32, y = l3_3 + 1 := ⟨_, rfl⟩
                    have zt29 : t29.toInt = l3_3.toInt + 1 := (congrArg Int32.toInt et29).trans (add_i rfl tc_1 (om_41 hr3_3) (om_153 zc9))
                    refine lv_iinc (v := t29) (lv' := [(3, .int t29), (2, .int t28), (5, .int r21), (4, .int 0), (0, .ref (x 35)), (1, .int p1)]) hx hb dX8_growthsAt_116 hl (k := 3) rfl et29.symm (Nat.le_of_ble_eq_true rfl) rfl (fun ls hl => ?_)
                    refine lv_goto (tgt := 27) hx hb dX8_growthsAt_119 rfl ?_
                    have rg30 := fb_rng t29
                    exact ih3 t28 t29 v23 f24 hIv23 hq0_v23 hq1_v23 hq7_v23 hq8_v23 hq9_v23 hq10_v23 hq31_v23 hq32_v23 ((gsX_X8_growthsAt_1_q4 c4 c9 et10 c11 et12 c13 et20 hG22 et25 c26 et27 et28 et29).symm.trans hT3) ⟨show (0 : Int) ≤ t29.toInt from om_43 hr3_3 zt29, show t29.toInt ≤ (2147483647 : Int) from om_44 rg30⟩ hM_v23 hA_f24 (show (2147483647 - t29.toInt).toNat < n3 from om_33 hm3 zt29 rg30) _ _ _ hP hD hS (lv_sub hl [0, 1, 4, 5] rfl)
                  · skip
                    refine lv_iload hx hb dX8_growthsAt_105 (lv_at hl 0 rfl) ?_
                    refine lv_goto (tgt := 114) hx hb dX8_growthsAt_107 rfl ?_
                    refine lv_iand hx hb dX8_growthsAt_114 ?_
                    refine lv_topi (fun t31 et31 => ?_)
                    refine lv_istore_n (lv' := [(2, .int t31), (5, .int r21), (4, .int 0), (3, .int l3_3), (0, .ref (x 35)), (1, .int p1)]) hx hb dX8_growthsAt_115 rfl hl (Nat.le_of_ble_eq_true rfl) rfl (fun ls hl => ?_)
                    obtain ⟨t32, et32⟩ : ∃ y : Int32, y = l3_3 + 1 := ⟨_, rfl⟩
                    have zt32 : t32.toInt = l3_3.toInt + 1 := (congrArg Int32.toInt et32).trans (add_i rfl tc_1 (om_41 hr3_3) (om_153 zc9))
                    refine lv_iinc (v := t32) (lv' := [(3, .int t32), (2, .int t31), (5, .int r21), (4, .int 0), (0, .ref (x 35)), (1, .int p1)]) hx hb dX8_growthsAt_116 hl (k := 3) rfl et32.symm (Nat.le_of_ble_eq_true rfl) rfl (fun ls hl => ?_)
                    refine lv_goto (tgt := 27) hx hb dX8_growthsAt_119 rfl ?_
                    have rg33 := fb_rng t32
                    exact ih3 t31 t32 v23 f24 hIv23 hq0_v23 hq1_v23 hq7_v23 hq8_v23 hq9_v23 hq10_v23 hq31_v23 hq32_v23 ((gsX_X8_growthsAt_1_q5 c4 c9 et10 c11 et12 c13 et20 hG22 et25 c26 et31 et32).symm.trans hT3) ⟨show (0 : Int) ≤ t32.toInt from om_43 hr3_3 zt32, show t32.toInt ≤ (2147483647 : Int) from om_44 rg33⟩ hM_v23 hA_f24 (show (2147483647 - t32.toInt).toNat < n3 from om_33 hm3 zt32 rg33) _ _ _ hP hD hS (lv_sub hl [0, 1, 4, 5] rfl)
              · skip
                refine lv_aload_n hx hb dX8_growthsAt_51 rfl (lv_at hl 2 rfl) ?_
                refine va_get (D := (dC, dI)) (ci := 8) (v := .ref (x 39)) (C := RX8) (T := TX8) (N := 7) hx hb hts inB_8 hown hE.1 hP 36 rfl rfl 4 (Nat.le_of_ble_eq_true rfl) (hts _ k_471) (fun _ h9 => h9) rfl dX8_growthsAt_52 ?_
                refine lv_iload_n hx hb dX8_growthsAt_55 rfl (lv_at hl 0 rfl) ?_
                refine ldI hx hb hE hP 40 rfl (vpI (k := 30) rfl (show 0 ≤ l3_3.toInt from om_39 hr3_3) (show l3_3.toInt < 30 from om_134 zc9)) rfl rfl dX8_growthsAt_56 ?_
                refine lv_topi (fun t34 et34 => ?_)
                refine lv_iload_n hx hb dX8_growthsAt_57 rfl (lv_at hl 3 rfl) ?_
                refine lv_icmp_gt (tgt := 65) hx hb dX8_growthsAt_58 rfl (fun c35 => ?_) (fun c35 => ?_)
                · skip
                  refine lv_iconst (v := 0) hx hb dX8_growthsAt_65 rfl ?_
                  refine lv_istore (lv' := [(4, .int 0), (3, .int l3_3), (2, .int l2_3), (0, .ref (x 35)), (1, .int p1)]) hx hb dX8_growthsAt_66 hl (Nat.le_of_ble_eq_true rfl) rfl (fun ls hl => ?_)
                  refine lv_aload_n hx hb dX8_growthsAt_68 rfl (lv_at hl 3 rfl) ?_
                  refine va_get (D := (dC, dI)) (ci := 8) (v := .ref (x 38)) (C := RX8) (T := TX8) (N := 7) hx hb hts inB_8 hown hE.1 hP 36 rfl rfl 3 (Nat.le_of_ble_eq_true rfl) (hts _ k_470) (fun _ h9 => h9) rfl dX8_growthsAt_69 ?_
                  refine lv_iload_n hx hb dX8_growthsAt_72 rfl (lv_at hl 1 rfl) ?_
                  refine ldI hx hb hE hP 39 rfl (vpI (k := 30) rfl (show 0 ≤ l3_3.toInt from om_39 hr3_3) (show l3_3.toInt < 30 from om_134 zc9)) rfl rfl dX8_growthsAt_73 ?_
                  refine lv_topi (fun t38 et38 => ?_)
                  refine lv_iload_n hx hb dX8_growthsAt_74 rfl (lv_at hl 4 rfl) ?_
                  refine lv_icmp_gt (tgt := 116) hx hb dX8_growthsAt_75 rfl (fun c39 => ?_) (fun c39 => ?_)
                  · skip
                    obtain ⟨t41, et41⟩ : ∃ y : Int32, y = l3_3 + 1 := ⟨_, rfl⟩
                    have zt41 : t41.toInt = l3_3.toInt + 1 := (congrArg Int32.toInt et41).trans (add_i rfl tc_1 (om_41 hr3_3) (om_153 zc9))
                    refine lv_iinc (v := t41) (lv' := [(3, .int t41), (4, .int 0), (2, .int l2_3), (0, .ref (x 35)), (1, .int p1)]) hx hb dX8_growthsAt_116 hl (k := 1) rfl et41.symm (Nat.le_of_ble_eq_true rfl) rfl (fun ls hl => ?_)
                    refine lv_goto (tgt := 27) hx hb dX8_growthsAt_119 rfl ?_
                    have rg42 := fb_rng t41
                    exact ih3 l2_3 t41 v3 f3 hIv3 hq0_v3 hq1_v3 hq7_v3 hq8_v3 hq9_v3 hq10_v3 hq31_v3 hq32_v3 ((gsX_X8_growthsAt_1_q6 c4 c9 et10 c11 et34 c35 et38 c39 et41).symm.trans hT3) ⟨show (0 : Int) ≤ t41.toInt from om_43 hr3_3 zt41, show t41.toInt ≤ (2147483647 : Int) from om_44 rg42⟩ hM_v3 hA_f3 (show (2147483647 - t41.toInt).toNat < n3 from om_33 hm3 zt41 rg42) _ _ _ hP hD hS (lv_sub hl [0, 2, 3, 4] rfl)
                  · skip
                    refine lv_iload hx hb dX8_growthsAt_78 (lv_at hl 0 rfl) ?_
                    refine lv_if_ne (tgt := 116) hx hb dX8_growthsAt_80 rfl (fun c0 => absurd (by decide) c0) (fun _ => ?_)
                    refine lv_aload_n hx hb dX8_growthsAt_83 rfl (lv_at hl 3 rfl) ?_
                    refine lv_aload_n hx hb dX8_growthsAt_84 rfl (lv_at hl 3 rfl) ?_
                    refine va_get (D := (dC, dI)) (ci := 8) (v := .ref (x 36)) (C := RX8) (T := TX8) (N := 7) hx hb hts inB_8 hown hE.1 hP 36 rfl rfl 1 (Nat.le_of_ble_eq_true rfl) (hts _ k_468) (fun _ h9 => h9) rfl dX8_growthsAt_85 ?_
                    refine lv_iload_n hx hb dX8_growthsAt_88 rfl (lv_at hl 1 rfl) ?_
                    refine ldI hx hb hE hP 37 rfl (vpI (k := 30) rfl (show 0 ≤ l3_3.toInt from om_39 hr3_3) (show l3_3.toInt < 30 from om_134 zc9)) rfl rfl dX8_growthsAt_89 ?_
                    refine lv_topi (fun t44 et44 => ?_)
                    refine cbVi (n := 1) (rest := []) hx hb hml hown hts hE hP hD hS hA (sX_X8_fittingBehind_1 NF l dC dI cy x0 x t44 v3 f3 hIv3 ) k_1252 k_1254 k_38 k_112 k_1255 hd_yX8_fittingBehind ⟨Nat.le_of_ble_eq_true rfl, Nat.le_of_ble_eq_true rfl⟩ 36 8 rfl rfl (rfl) hl.1 rfl (Nat.le_of_ble_eq_true rfl) dX8_growthsAt_90 (fun r45 u H locs hw hP hD hS => ?_)
                    obtain ⟨hG46, hw⟩ := hw
                    obtain ⟨v47, f48⟩ := u
                    obtain ⟨kV_v47, kF_f48, hIv47, hk0_v47, hk1_v47, hk7_v47, hk8_v47, hk9_v47, hk10_v47, hk31_v47, hk32_v47⟩ := hw
                    have hM_v47 : KV [] v47 v := KV.tr kV_v47 hM_v3 rfl
                    have hA_f48 : KF [13, 14, 27] f48 f := KF.tr kF_f48 hA_f3 rfl
                    have hP : va_P (dC, dI) vwCl (XW cy x0 x v47 f48) H := hP
                    have hD : va_D A (XW cy x0 x v47 f48) := hD
                    have hq0_v47 : v47 0 = (v 0) := hk0_v47.trans hq0_v3
                    have hq1_v47 : v47 1 = (v 1) := hk1_v47.trans hq1_v3
                    have hq7_v47 : v47 7 = (v 7) := hk7_v47.trans hq7_v3
                    have hq8_v47 : v47 8 = (v 8) := hk8_v47.trans hq8_v3
                    have hq9_v47 : v47 9 = (v 9) := hk9_v47.trans hq9_v3
                    have hq10_v47 : v47 10 = (v 10) := hk10_v47.trans hq10_v3
                    have hq31_v47 : v47 31 = (v 31) := hk31_v47.trans hq31_v3
                    have hq32_v47 : v47 32 = (v 32) := hk32_v47.trans hq32_v3
                    refine lv_istore (lv' := [(5, .int r45), (4, .int 0), (3, .int l3_3), (2, .int l2_3), (0, .ref (x 35)), (1, .int p1)]) hx hb dX8_growthsAt_93 hl (Nat.le_of_ble_eq_true rfl) rfl (fun ls hl => ?_)
                    refine lv_iload_n hx hb dX8_growthsAt_95 rfl (lv_at hl 3 rfl) ?_
                    refine lv_aload_n hx hb dX8_growthsAt_96 rfl (lv_at hl 4 rfl) ?_
                    refine va_get (D := (dC, dI)) (ci := 8) (v := .ref (x 37)) (C := RX8) (T := TX8) (N := 7) hx hb hts inB_8 hown hE.1 hP 36 rfl rfl 2 (Nat.le_of_ble_eq_true rfl) (hts _ k_469) (fun _ h9 => h9) rfl dX8_growthsAt_97 ?_
                    refine lv_iload_n hx hb dX8_growthsAt_100 rfl (lv_at hl 2 rfl) ?_
                    refine ldZ hx hb hE hP 38 rfl (vpI (k := 30) rfl (show 0 ≤ l3_3.toInt from om_39 hr3_3) (show l3_3.toInt < 30 from om_134 zc9)) rfl rfl dX8_growthsAt_101 ?_
                    refine lv_topi (fun t49 et49 => ?_)
                    refine lv_if_eq (tgt := 110) hx hb dX8_growthsAt_102 rfl (fun c50 => ?_) (fun c50 => ?_)
                    · skip
                      refine lv_iload hx hb dX8_growthsAt_110 (lv_at hl 0 rfl) ?_
                      refine lv_iconst (v := (-1)) hx hb dX8_growthsAt_112 rfl ?_
                      refine lv_ixor hx hb dX8_growthsAt_113 ?_
                      refine lv_topi (fun t51 et51 => ?_)
                      refine lv_iand hx hb dX8_growthsAt_114 ?_
                      refine lv_topi (fun t52 et52 => ?_)
                      refine lv_istore_n (lv' := [(2, .int t52), (5, .int r45), (4, .int 0), (3, .int l3_3), (0, .ref (x 35)), (1, .int p1)]) hx hb dX8_growthsAt_115 rfl hl (Nat.le_of_ble_eq_true rfl) rfl (fun ls hl => ?_)
                      obtain ⟨t53, et53⟩ : ∃ y : Int32, y = l3_3 + 1 := ⟨_, rfl⟩
                      have zt53 : t53.toInt = l3_3.toInt + 1 := (congrArg Int32.toInt et53).trans (add_i rfl tc_1 (om_41 hr3_3) (om_153 zc9))
                      refine lv_iinc (v := t53) (lv' := [(3, .int t53), (2, .int t52), (5, .int r45), (4, .int 0), (0, .ref (x 35)), (1, .int p1)]) hx hb dX8_growthsAt_116 hl (k := 3) rfl et53.symm (Nat.le_of_ble_eq_true rfl) rfl (fun ls hl => ?_)
                      refine lv_goto (tgt := 27) hx hb dX8_growthsAt_119 rfl ?_
                      have rg54 := fb_rng t53
                      exact ih3 t52 t53 v47 f48 hIv47 hq0_v47 hq1_v47 hq7_v47 hq8_v47 hq9_v47 hq10_v47 hq31_v47 hq32_v47 ((gsX_X8_growthsAt_1_q7 c4 c9 et10 c11 et34 c35 et38 c39 et44 hG46 et49 c50 et51 et52 et53).symm.trans hT3) ⟨show (0 : Int) ≤ t53.toInt from om_43 hr3_3 zt53, show t53.toInt ≤ (2147483647 : Int) from om_44 rg54⟩ hM_v47 hA_f48 (show (2147483647 - t53.toInt).toNat < n3 from om_33 hm3 zt53 rg54) _ _ _ hP hD hS (lv_sub hl [0, 1, 4, 5] rfl)
                    · skip
                      refine lv_iload hx hb dX8_growthsAt_105 (lv_at hl 0 rfl) ?_
                      refine lv_goto (tgt := 114) hx hb dX8_growthsAt_107 rfl ?_
                      refine lv_iand hx hb dX8_growthsAt_114 ?_
                      refine lv_topi (fun t55 et55 => ?_)
                      refine lv_istore_n (lv' := [(2, .int t55), (5, .int r45), (4, .int 0), (3, .int l3_3), (0, .ref (x 35)), (1, .int p1)]) hx hb dX8_growthsAt_115 rfl hl (Nat.le_of_ble_eq_true rfl) rfl (fun ls hl => ?_)
                      obtain ⟨t56, et56⟩ : ∃ y : Int32, y = l3_3 + 1 := ⟨_, rfl⟩
                      have zt56 : t56.toInt = l3_3.toInt + 1 := (congrArg Int32.toInt et56).trans (add_i rfl tc_1 (om_41 hr3_3) (om_153 zc9))
                      refine lv_iinc (v := t56) (lv' := [(3, .int t56), (2, .int t55), (5, .int r45), (4, .int 0), (0, .ref (x 35)), (1, .int p1)]) hx hb dX8_growthsAt_116 hl (k := 3) rfl et56.symm (Nat.le_of_ble_eq_true rfl) rfl (fun ls hl => ?_)
                      refine lv_goto (tgt := 27) hx hb dX8_growthsAt_119 rfl ?_
                      have rg57 := fb_rng t56
                      exact ih3 t55 t56 v47 f48 hIv47 hq0_v47 hq1_v47 hq7_v47 hq8_v47 hq9_v47 hq10_v47 hq31_v47 hq32_v47 ((gsX_X8_growthsAt_1_q8 c4 c9 et10 c11 et34 c35 et38 c39 et44 hG46 et49 c50 et55 et56).symm.trans hT3) ⟨show (0 : Int) ≤ t56.toInt from om_43 hr3_3 zt56, show t56.toInt ≤ (2147483647 : Int) from om_44 rg57⟩ hM_v47 hA_f48 (show (2147483647 - t56.toInt).toNat < n3 from om_33 hm3 zt56 rg57) _ _ _ hP hD hS (lv_sub hl [0, 1, 4, 5] rfl)
                · skip
                  refine lv_iconst (v := 1) hx hb dX8_growthsAt_61 rfl ?_
                  refine lv_goto (tgt := 66) hx hb dX8_growthsAt_62 rfl ?_
                  refine lv_istore (lv' := [(4, .int 1), (3, .int l3_3), (2, .int l2_3), (0, .ref (x 35)), (1, .int p1)]) hx hb dX8_growthsAt_66 hl (Nat.le_of_ble_eq_true rfl) rfl (fun ls hl => ?_)
                  refine lv_aload_n hx hb dX8_growthsAt_68 rfl (lv_at hl 3 rfl) ?_
                  refine va_get (D := (dC, dI)) (ci := 8) (v := .ref (x 38)) (C := RX8) (T := TX8) (N := 7) hx hb hts inB_8 hown hE.1 hP 36 rfl rfl 3 (Nat.le_of_ble_eq_true rfl) (hts _ k_470) (fun _ h9 => h9) rfl dX8_growthsAt_69 ?_
                  refine lv_iload_n hx hb dX8_growthsAt_72 rfl (lv_at hl 1 rfl) ?_
                  refine ldI hx hb hE hP 39 rfl (vpI (k := 30) rfl (show 0 ≤ l3_3.toInt from om_39 hr3_3) (show l3_3.toInt < 30 from om_134 zc9)) rfl rfl dX8_growthsAt_73 ?_
                  refine lv_topi (fun t60 et60 => ?_)
                  refine lv_iload_n hx hb dX8_growthsAt_74 rfl (lv_at hl 4 rfl) ?_
                  refine lv_icmp_gt (tgt := 116) hx hb dX8_growthsAt_75 rfl (fun c61 => ?_) (fun c61 => ?_)
                  · skip
                    obtain ⟨t63, et63⟩ : ∃ y : Int32, y = l3_3 + 1 := ⟨_, rfl⟩
                    have zt63 : t63.toInt = l3_3.toInt + 1 := (congrArg Int32.toInt et63).trans (add_i rfl tc_1 (om_41 hr3_3) (om_153 zc9))
                    refine lv_iinc (v := t63) (lv' := [(3, .int t63), (4, .int 1), (2, .int l2_3), (0, .ref (x 35)), (1, .int p1)]) hx hb dX8_growthsAt_116 hl (k := 1) rfl et63.symm (Nat.le_of_ble_eq_true rfl) rfl (fun ls hl => ?_)
                    refine lv_goto (tgt := 27) hx hb dX8_growthsAt_119 rfl ?_
                    have rg64 := fb_rng t63
                    exact ih3 l2_3 t63 v3 f3 hIv3 hq0_v3 hq1_v3 hq7_v3 hq8_v3 hq9_v3 hq10_v3 hq31_v3 hq32_v3 ((gsX_X8_growthsAt_1_q9 c4 c9 et10 c11 et34 c35 et60 c61 et63).symm.trans hT3) ⟨show (0 : Int) ≤ t63.toInt from om_43 hr3_3 zt63, show t63.toInt ≤ (2147483647 : Int) from om_44 rg64⟩ hM_v3 hA_f3 (show (2147483647 - t63.toInt).toNat < n3 from om_33 hm3 zt63 rg64) _ _ _ hP hD hS (lv_sub hl [0, 2, 3, 4] rfl)
                  · skip
                    refine lv_iload hx hb dX8_growthsAt_78 (lv_at hl 0 rfl) ?_
                    refine lv_if_ne (tgt := 116) hx hb dX8_growthsAt_80 rfl (fun _ => ?_) (fun c0 => absurd c0 (by decide))
                    obtain ⟨t66, et66⟩ : ∃ y : Int32, y = l3_3 + 1 := ⟨_, rfl⟩
                    have zt66 : t66.toInt = l3_3.toInt + 1 := (congrArg Int32.toInt et66).trans (add_i rfl tc_1 (om_41 hr3_3) (om_153 zc9))
                    refine lv_iinc (v := t66) (lv' := [(3, .int t66), (4, .int 1), (2, .int l2_3), (0, .ref (x 35)), (1, .int p1)]) hx hb dX8_growthsAt_116 hl (k := 1) rfl et66.symm (Nat.le_of_ble_eq_true rfl) rfl (fun ls hl => ?_)
                    refine lv_goto (tgt := 27) hx hb dX8_growthsAt_119 rfl ?_
                    have rg67 := fb_rng t66
                    exact ih3 l2_3 t66 v3 f3 hIv3 hq0_v3 hq1_v3 hq7_v3 hq8_v3 hq9_v3 hq10_v3 hq31_v3 hq32_v3 ((gsX_X8_growthsAt_1_q10 c4 c9 et10 c11 et34 c35 et60 c61 et66).symm.trans hT3) ⟨show (0 : Int) ≤ t66.toInt from om_43 hr3_3 zt66, show t66.toInt ≤ (2147483647 : Int) from om_44 rg67⟩ hM_v3 hA_f3 (show (2147483647 - t66.toInt).toNat < n3 from om_33 hm3 zt66 rg67) _ _ _ hP hD hS (lv_sub hl [0, 2, 3, 4] rfl)
      exact lp3 (4294967296 + NF) 2147483647 0 v f hIv rfl rfl rfl rfl rfl rfl rfl rfl (gsX_X8_growthsAt_1_q11 c1 c2).symm ⟨by decide, by decide⟩ hM_v hA_f (show (2147483647 - (0 : Int32).toInt).toNat < 4294967296 + NF from om_38 tc_0) _ _ _ hP hD hS (lv_sub hl [0, 1, 2, 3] rfl)
    · skip
      refine lv_iconst (v := 0) hx hb dX8_growthsAt_20 rfl ?_
      exact ret 0 (v, f) _ _ _ _ _ _ rfl ⟨(gsX_X8_growthsAt_1_q12 c1 c2), hM_v, hA_f, hIv, rfl, rfl, rfl, rfl, rfl, rfl, rfl, rfl⟩ hP hD hS dX8_growthsAt_21 (Nat.le_refl _) (Nat.le_refl _)
set_option maxHeartbeats 4000000 in
set_option maxRecDepth 100000 in
theorem sX_J6_bitCount_0f7a4_1 (NF : Nat) (l : Launch) (dC : Nat → ClassId) (dI : Nat → Nat → Nat) (cy : Nat → ClassId) (x0 : Nat) (x : Nat → Nat) (p0 : Int32) (v : Nat → Int32) (f : Nat → Nat → Int32) (hIv : XI v)  : ctI l (dC, dI) cy yJ6_bitCount_0f7a4 cJ6_bitCount_0f7a4 1 .int 1 60 0 0 Unit [.int p0] (XW cy x0 x v f) (fun r u => gsX_J6_bitCount_0f7a4_1 NF p0 v f = r) (fun u => XW cy x0 x v f) := by
  refine ctI_of (by decide) (Nat.le_of_ble_eq_true rfl) (fun p e s m below meth c A ls Q hx hb hml hts hown hE hP hD hA hl ret => ?_)
  have hown : s.vm.findClass RJ6 = some m.cls := hown
  have hS : va_S A s.heap s.heap [] := va_S.rf
  have hl : lv_has ls 1 [(0, .int p0)] := hl
  refine lv_iload_n hx hb dJ6_bitCount_0f7a4_0 rfl (lv_at hl 0 rfl) ?_
  refine lv_iload_n hx hb dJ6_bitCount_0f7a4_1 rfl (lv_at hl 0 rfl) ?_
  refine lv_iconst (v := 1) hx hb dJ6_bitCount_0f7a4_2 rfl ?_
  refine lv_iushr hx hb dJ6_bitCount_0f7a4_3 rfl ?_
  refine lv_topi (fun t1 et1 => ?_)
  refine lv_ldcw (v := 1431655765) hx hb hown (hts _ k_1045) dJ6_bitCount_0f7a4_4 ?_
  refine lv_iand hx hb dJ6_bitCount_0f7a4_7 ?_
  refine lv_topi (fun t2 et2 => ?_)
  refine lv_isub hx hb dJ6_bitCount_0f7a4_8 ?_
  refine lv_topi (fun t3 et3 => ?_)
  refine lv_istore_n (lv' := [(0, .int t3)]) hx hb dJ6_bitCount_0f7a4_9 rfl hl (Nat.le_of_ble_eq_true rfl) rfl (fun ls hl => ?_)
  refine lv_iload_n hx hb dJ6_bitCount_0f7a4_10 rfl (lv_at hl 0 rfl) ?_
  refine lv_ldcw (v := 858993459) hx hb hown (hts _ k_1046) dJ6_bitCount_0f7a4_11 ?_
  refine lv_iand hx hb dJ6_bitCount_0f7a4_14 ?_
  refine lv_topi (fun t4 et4 => ?_)
  refine lv_iload_n hx hb dJ6_bitCount_0f7a4_15 rfl (lv_at hl 0 rfl) ?_
  refine lv_iconst (v := 2) hx hb dJ6_bitCount_0f7a4_16 rfl ?_
  refine lv_iushr hx hb dJ6_bitCount_0f7a4_17 rfl ?_
  refine lv_topi (fun t5 et5 => ?_)
  refine lv_ldcw (v := 858993459) hx hb hown (hts _ k_1046) dJ6_bitCount_0f7a4_18 ?_
  refine lv_iand hx hb dJ6_bitCount_0f7a4_21 ?_
  refine lv_topi (fun t6 et6 => ?_)
  refine lv_iadd hx hb dJ6_bitCount_0f7a4_22 ?_
  refine lv_topi (fun t7 et7 => ?_)
  refine lv_istore_n (lv' := [(0, .int t7)]) hx hb dJ6_bitCount_0f7a4_23 rfl hl (Nat.le_of_ble_eq_true rfl) rfl (fun ls hl => ?_)
  refine lv_iload_n hx hb dJ6_bitCount_0f7a4_24 rfl (lv_at hl 0 rfl) ?_
  refine lv_iload_n hx hb dJ6_bitCount_0f7a4_25 rfl (lv_at hl 0 rfl) ?_
  refine lv_iconst (v := 4) hx hb dJ6_bitCount_0f7a4_26 rfl ?_
  refine lv_iushr hx hb dJ6_bitCount_0f7a4_27 rfl ?_
  refine lv_topi (fun t8 et8 => ?_)
  refine lv_iadd hx hb dJ6_bitCount_0f7a4_28 ?_
  refine lv_topi (fun t9 et9 => ?_)
  refine lv_ldcw (v := 252645135) hx hb hown (hts _ k_1047) dJ6_bitCount_0f7a4_29 ?_
  refine lv_iand hx hb dJ6_bitCount_0f7a4_32 ?_
  refine lv_topi (fun t10 et10 => ?_)
  refine lv_istore_n (lv' := [(0, .int t10)]) hx hb dJ6_bitCount_0f7a4_33 rfl hl (Nat.le_of_ble_eq_true rfl) rfl (fun ls hl => ?_)
  refine lv_iload_n hx hb dJ6_bitCount_0f7a4_34 rfl (lv_at hl 0 rfl) ?_
  refine lv_iload_n hx hb dJ6_bitCount_0f7a4_35 rfl (lv_at hl 0 rfl) ?_
  refine lv_bipush (v := 8) hx hb dJ6_bitCount_0f7a4_36 rfl ?_
  refine lv_iushr hx hb dJ6_bitCount_0f7a4_38 rfl ?_
  refine lv_topi (fun t11 et11 => ?_)
  refine lv_iadd hx hb dJ6_bitCount_0f7a4_39 ?_
  refine lv_topi (fun t12 et12 => ?_)
  refine lv_istore_n (lv' := [(0, .int t12)]) hx hb dJ6_bitCount_0f7a4_40 rfl hl (Nat.le_of_ble_eq_true rfl) rfl (fun ls hl => ?_)
  refine lv_iload_n hx hb dJ6_bitCount_0f7a4_41 rfl (lv_at hl 0 rfl) ?_
  refine lv_iload_n hx hb dJ6_bitCount_0f7a4_42 rfl (lv_at hl 0 rfl) ?_
  refine lv_bipush (v := 16) hx hb dJ6_bitCount_0f7a4_43 rfl ?_
  refine lv_iushr hx hb dJ6_bitCount_0f7a4_45 rfl ?_
  refine lv_topi (fun t13 et13 => ?_)
  refine lv_iadd hx hb dJ6_bitCount_0f7a4_46 ?_
  refine lv_topi (fun t14 et14 => ?_)
  refine lv_istore_n (lv' := [(0, .int t14)]) hx hb dJ6_bitCount_0f7a4_47 rfl hl (Nat.le_of_ble_eq_true rfl) rfl (fun ls hl => ?_)
  refine lv_iload_n hx hb dJ6_bitCount_0f7a4_48 rfl (lv_at hl 0 rfl) ?_
  refine lv_bipush (v := 63) hx hb dJ6_bitCount_0f7a4_49 rfl ?_
  refine lv_iand hx hb dJ6_bitCount_0f7a4_51 ?_
  refine lv_topi (fun t15 et15 => ?_)
  have zt15 : 0 ≤ t15.toInt ∧ t15.toInt < 64 := by rw [et15]; exact and_rng _ (k := 6) (by decide) (by decide)
  exact ret t15 () _ _ _ _ _ _ rfl (gsX_J6_bitCount_0f7a4_1_q0 et1 et2 et3 et4 et5 et6 et7 et8 et9 et10 et11 et12 et13 et14 et15) hP hD hS dJ6_bitCount_0f7a4_52 (Nat.le_refl _) (Nat.le_refl _)
set_option maxHeartbeats 4000000 in
set_option maxRecDepth 100000 in
theorem sX_X10_growths_1 (NF : Nat) (l : Launch) (dC : Nat → ClassId) (dI : Nat → Nat → Nat) (cy : Nat → ClassId) (x0 : Nat) (x : Nat → Nat) (p1 : Int32) (v : Nat → Int32) (f : Nat → Nat → Int32) (hIv : XI v)  : ctI l (dC, dI) cy yX10_growths cX10_growths 2 .int 6 183 0 0 ((Nat → Int32) × (Nat → Nat → Int32)) [.ref x0, .int p1] (XW cy x0 x v f) (fun r u => gsX_X10_growths_1 NF p1 v f = (r, u) ∧ KV [] u.1 v ∧ KF [13, 14, 27] u.2 f ∧ XI u.1 ∧ u.1 0 = v 0 ∧ u.1 1 = v 1 ∧ u.1 7 = v 7 ∧ u.1 8 = v 8 ∧ u.1 9 = v 9 ∧ u.1 10 = v 10 ∧ u.1 31 = v 31 ∧ u.1 32 = v 32) (fun u => XW cy x0 x u.1 u.2) := by
  refine ctI_of (by decide) (Nat.le_of_ble_eq_true rfl) (fun p e s m below meth c A ls Q hx hb hml hts hown hE hP hD hA hl ret => ?_)
  have hM_v : KV [] v v := fun _ _ => rfl
  have hA_f : KF [13, 14, 27] f f := fun _ _ => rfl
  have hown : s.vm.findClass RX10 = some m.cls := hown
  have hS : va_S A s.heap s.heap [] := va_S.rf
  have hl : lv_has ls 2 [(0, .ref x0), (1, .int p1)] := hl
  refine lv_aload_n hx hb dX10_growths_0 rfl (lv_at hl 0 rfl) ?_
  refine va_get (D := (dC, dI)) (ci := 10) (v := .ref (x 35)) (C := RX10) (T := TX10) (N := 10) hx hb hts inB_10 hown hE.1 hP 0 rfl rfl 8 (Nat.le_of_ble_eq_true rfl) (hts _ k_499) (fun _ h9 => h9) rfl dX10_growths_1 ?_
  refine lv_iload_n hx hb dX10_growths_4 rfl (lv_at hl 1 rfl) ?_
  refine cbVi (n := 1) (rest := []) hx hb hml hown hts hE hP hD hS hA (sX_X8_growthsAt_1 NF l dC dI cy x0 x p1 v f hIv ) k_1247 k_1248 k_1249 k_112 k_1250 hd_yX8_growthsAt ⟨Nat.le_of_ble_eq_true rfl, Nat.le_of_ble_eq_true rfl⟩ 36 8 rfl rfl (rfl) hl.1 rfl (Nat.le_of_ble_eq_true rfl) dX10_growths_5 (fun r1 u H locs hw hP hD hS => ?_)
  obtain ⟨hG2, hw⟩ := hw
  obtain ⟨v3, f4⟩ := u
  obtain ⟨kV_v3, kF_f4, hIv3, hk0_v3, hk1_v3, hk7_v3, hk8_v3, hk9_v3, hk10_v3, hk31_v3, hk32_v3⟩ := hw
  have hM_v3 : KV [] v3 v := KV.tr kV_v3 hM_v rfl
  have hA_f4 : KF [13, 14, 27] f4 f := KF.tr kF_f4 hA_f rfl
  have hP : va_P (dC, dI) vwCl (XW cy x0 x v3 f4) H := hP
  have hD : va_D A (XW cy x0 x v3 f4) := hD
  have hq0_v3 : v3 0 = (v 0) := hk0_v3
  have hq1_v3 : v3 1 = (v 1) := hk1_v3
  have hq7_v3 : v3 7 = (v 7) := hk7_v3
  have hq8_v3 : v3 8 = (v 8) := hk8_v3
  have hq9_v3 : v3 9 = (v 9) := hk9_v3
  have hq10_v3 : v3 10 = (v 10) := hk10_v3
  have hq31_v3 : v3 31 = (v 31) := hk31_v3
  have hq32_v3 : v3 32 = (v 32) := hk32_v3
  refine cbSi (n := 1) (rest := []) hx hb hml hown hts hE hP hD hS hA (sX_J6_bitCount_0f7a4_1 NF l dC dI cy x0 x r1 v3 f4 hIv3 ) k_1071 k_1043 k_121 k_1044 he_yJ6_bitCount_0f7a4 ⟨Nat.le_of_ble_eq_true rfl, Nat.le_of_ble_eq_true rfl⟩ (rfl) hl.1 rfl (Nat.le_of_ble_eq_true rfl) dX10_growths_8 (fun r5 u H locs hw hP hD hS => ?_)
  have hG6 := hw
  exact ret r5 (v3, f4) _ _ _ _ _ _ rfl ⟨(gsX_X10_growths_1_q0 hG2 hG6.symm), hM_v3, hA_f4, hIv3, hk0_v3, hk1_v3, hk7_v3, hk8_v3, hk9_v3, hk10_v3, hk31_v3, hk32_v3⟩ hP hD hS dX10_growths_11 (Nat.le_refl _) (Nat.le_refl _)
set_option maxHeartbeats 4000000 in
set_option maxRecDepth 100000 in
theorem sX_J6_numberOfLeadingZeros_0f7a4_1 (NF : Nat) (l : Launch) (dC : Nat → ClassId) (dI : Nat → Nat → Nat) (cy : Nat → ClassId) (x0 : Nat) (x : Nat → Nat) (p0 : Int32) (v : Nat → Int32) (f : Nat → Nat → Int32) (hIv : XI v)  : ctI l (dC, dI) cy yJ6_numberOfLeadingZeros_0f7a4 cJ6_numberOfLeadingZeros_0f7a4 2 .int 1 60 0 0 Unit [.int p0] (XW cy x0 x v f) (fun r u => gsX_J6_numberOfLeadingZeros_0f7a4_1 NF p0 v f = r) (fun u => XW cy x0 x v f) := by
  refine ctI_of (by decide) (Nat.le_of_ble_eq_true rfl) (fun p e s m below meth c A ls Q hx hb hml hts hown hE hP hD hA hl ret => ?_)
  have hown : s.vm.findClass RJ6 = some m.cls := hown
  have hS : va_S A s.heap s.heap [] := va_S.rf
  have hl : lv_has ls 2 [(0, .int p0)] := hl
  refine lv_iload_n hx hb dJ6_numberOfLeadingZeros_0f7a4_0 rfl (lv_at hl 0 rfl) ?_
  refine lv_if_gt (tgt := 15) hx hb dJ6_numberOfLeadingZeros_0f7a4_1 rfl (fun c1 => ?_) (fun c1 => ?_)
  · skip
    refine lv_bipush (v := 31) hx hb dJ6_numberOfLeadingZeros_0f7a4_15 rfl ?_
    refine lv_istore_n (lv' := [(1, .int 31), (0, .int p0)]) hx hb dJ6_numberOfLeadingZeros_0f7a4_17 rfl hl (Nat.le_of_ble_eq_true rfl) rfl (fun ls hl => ?_)
    refine lv_iload_n hx hb dJ6_numberOfLeadingZeros_0f7a4_18 rfl (lv_at hl 1 rfl) ?_
    refine lv_ldcw (v := 65536) hx hb hown (hts _ k_1271) dJ6_numberOfLeadingZeros_0f7a4_19 ?_
    refine lv_icmp_lt (tgt := 33) hx hb dJ6_numberOfLeadingZeros_0f7a4_22 rfl (fun c2 => ?_) (fun c2 => ?_)
    · skip
      refine lv_iload_n hx hb dJ6_numberOfLeadingZeros_0f7a4_33 rfl (lv_at hl 1 rfl) ?_
      refine lv_sipush (v := 256) hx hb dJ6_numberOfLeadingZeros_0f7a4_34 rfl ?_
      refine lv_icmp_lt (tgt := 48) hx hb dJ6_numberOfLeadingZeros_0f7a4_37 rfl (fun c3 => ?_) (fun c3 => ?_)
      · skip
        refine lv_iload_n hx hb dJ6_numberOfLeadingZeros_0f7a4_48 rfl (lv_at hl 1 rfl) ?_
        refine lv_bipush (v := 16) hx hb dJ6_numberOfLeadingZeros_0f7a4_49 rfl ?_
        refine lv_icmp_lt (tgt := 61) hx hb dJ6_numberOfLeadingZeros_0f7a4_51 rfl (fun c4 => ?_) (fun c4 => ?_)
        · skip
          refine lv_iload_n hx hb dJ6_numberOfLeadingZeros_0f7a4_61 rfl (lv_at hl 1 rfl) ?_
          refine lv_iconst (v := 4) hx hb dJ6_numberOfLeadingZeros_0f7a4_62 rfl ?_
          refine lv_icmp_lt (tgt := 73) hx hb dJ6_numberOfLeadingZeros_0f7a4_63 rfl (fun c5 => ?_) (fun c5 => ?_)
          · skip
            refine lv_iload_n hx hb dJ6_numberOfLeadingZeros_0f7a4_73 rfl (lv_at hl 0 rfl) ?_
            refine lv_iload_n hx hb dJ6_numberOfLeadingZeros_0f7a4_74 rfl (lv_at hl 1 rfl) ?_
            refine lv_iconst (v := 1) hx hb dJ6_numberOfLeadingZeros_0f7a4_75 rfl ?_
            refine lv_iushr hx hb dJ6_numberOfLeadingZeros_0f7a4_76 rfl ?_
            refine lv_topi (fun t6 et6 => ?_)
            refine lv_isub hx hb dJ6_numberOfLeadingZeros_0f7a4_77 ?_
            refine lv_topi (fun t7 et7 => ?_)
            exact ret t7 () _ _ _ _ _ _ rfl (gsX_J6_numberOfLeadingZeros_0f7a4_1_q0 c1 c2 c3 c4 c5 et6 et7) hP hD hS dJ6_numberOfLeadingZeros_0f7a4_78 (Nat.le_refl _) (Nat.le_refl _)
          · skip
            refine lv_iinc (v := 29) (lv' := [(1, .int 29), (0, .int p0)]) hx hb dJ6_numberOfLeadingZeros_0f7a4_66 hl (k := 0) rfl (by decide) (by decide) rfl (fun ls hl => ?_)
            refine lv_iload_n hx hb dJ6_numberOfLeadingZeros_0f7a4_69 rfl (lv_at hl 1 rfl) ?_
            refine lv_iconst (v := 2) hx hb dJ6_numberOfLeadingZeros_0f7a4_70 rfl ?_
            refine lv_iushr hx hb dJ6_numberOfLeadingZeros_0f7a4_71 rfl ?_
            refine lv_topi (fun t8 et8 => ?_)
            refine lv_istore_n (lv' := [(0, .int t8), (1, .int 29)]) hx hb dJ6_numberOfLeadingZeros_0f7a4_72 rfl hl (Nat.le_of_ble_eq_true rfl) rfl (fun ls hl => ?_)
            refine lv_iload_n hx hb dJ6_numberOfLeadingZeros_0f7a4_73 rfl (lv_at hl 1 rfl) ?_
            refine lv_iload_n hx hb dJ6_numberOfLeadingZeros_0f7a4_74 rfl (lv_at hl 0 rfl) ?_
            refine lv_iconst (v := 1) hx hb dJ6_numberOfLeadingZeros_0f7a4_75 rfl ?_
            refine lv_iushr hx hb dJ6_numberOfLeadingZeros_0f7a4_76 rfl ?_
            refine lv_topi (fun t9 et9 => ?_)
            refine lv_isub hx hb dJ6_numberOfLeadingZeros_0f7a4_77 ?_
            refine lv_topi (fun t10 et10 => ?_)
            exact ret t10 () _ _ _ _ _ _ rfl (gsX_J6_numberOfLeadingZeros_0f7a4_1_q1 c1 c2 c3 c4 c5 et8 et9 et10) hP hD hS dJ6_numberOfLeadingZeros_0f7a4_78 (Nat.le_refl _) (Nat.le_refl _)
        · skip
          refine lv_iinc (v := 27) (lv' := [(1, .int 27), (0, .int p0)]) hx hb dJ6_numberOfLeadingZeros_0f7a4_54 hl (k := 0) rfl (by decide) (by decide) rfl (fun ls hl => ?_)
          refine lv_iload_n hx hb dJ6_numberOfLeadingZeros_0f7a4_57 rfl (lv_at hl 1 rfl) ?_
          refine lv_iconst (v := 4) hx hb dJ6_numberOfLeadingZeros_0f7a4_58 rfl ?_
          refine lv_iushr hx hb dJ6_numberOfLeadingZeros_0f7a4_59 rfl ?_
          refine lv_topi (fun t11 et11 => ?_)
          refine lv_istore_n (lv' := [(0, .int t11), (1, .int 27)]) hx hb dJ6_numberOfLeadingZeros_0f7a4_60 rfl hl (Nat.le_of_ble_eq_true rfl) rfl (fun ls hl => ?_)
          refine lv_iload_n hx hb dJ6_numberOfLeadingZeros_0f7a4_61 rfl (lv_at hl 0 rfl) ?_
          refine lv_iconst (v := 4) hx hb dJ6_numberOfLeadingZeros_0f7a4_62 rfl ?_
          refine lv_icmp_lt (tgt := 73) hx hb dJ6_numberOfLeadingZeros_0f7a4_63 rfl (fun c12 => ?_) (fun c12 => ?_)
          · skip
            refine lv_iload_n hx hb dJ6_numberOfLeadingZeros_0f7a4_73 rfl (lv_at hl 1 rfl) ?_
            refine lv_iload_n hx hb dJ6_numberOfLeadingZeros_0f7a4_74 rfl (lv_at hl 0 rfl) ?_
            refine lv_iconst (v := 1) hx hb dJ6_numberOfLeadingZeros_0f7a4_75 rfl ?_
            refine lv_iushr hx hb dJ6_numberOfLeadingZeros_0f7a4_76 rfl ?_
            refine lv_topi (fun t13 et13 => ?_)
            refine lv_isub hx hb dJ6_numberOfLeadingZeros_0f7a4_77 ?_
            refine lv_topi (fun t14 et14 => ?_)
            exact ret t14 () _ _ _ _ _ _ rfl (gsX_J6_numberOfLeadingZeros_0f7a4_1_q2 c1 c2 c3 c4 et11 c12 et13 et14) hP hD hS dJ6_numberOfLeadingZeros_0f7a4_78 (Nat.le_refl _) (Nat.le_refl _)
          · skip
            refine lv_iinc (v := 25) (lv' := [(1, .int 25), (0, .int t11)]) hx hb dJ6_numberOfLeadingZeros_0f7a4_66 hl (k := 1) rfl (by decide) (by decide) rfl (fun ls hl => ?_)
            refine lv_iload_n hx hb dJ6_numberOfLeadingZeros_0f7a4_69 rfl (lv_at hl 1 rfl) ?_
            refine lv_iconst (v := 2) hx hb dJ6_numberOfLeadingZeros_0f7a4_70 rfl ?_
            refine lv_iushr hx hb dJ6_numberOfLeadingZeros_0f7a4_71 rfl ?_
            refine lv_topi (fun t15 et15 => ?_)
            refine lv_istore_n (lv' := [(0, .int t15), (1, .int 25)]) hx hb dJ6_numberOfLeadingZeros_0f7a4_72 rfl hl (Nat.le_of_ble_eq_true rfl) rfl (fun ls hl => ?_)
            refine lv_iload_n hx hb dJ6_numberOfLeadingZeros_0f7a4_73 rfl (lv_at hl 1 rfl) ?_
            refine lv_iload_n hx hb dJ6_numberOfLeadingZeros_0f7a4_74 rfl (lv_at hl 0 rfl) ?_
            refine lv_iconst (v := 1) hx hb dJ6_numberOfLeadingZeros_0f7a4_75 rfl ?_
            refine lv_iushr hx hb dJ6_numberOfLeadingZeros_0f7a4_76 rfl ?_
            refine lv_topi (fun t16 et16 => ?_)
            refine lv_isub hx hb dJ6_numberOfLeadingZeros_0f7a4_77 ?_
            refine lv_topi (fun t17 et17 => ?_)
            exact ret t17 () _ _ _ _ _ _ rfl (gsX_J6_numberOfLeadingZeros_0f7a4_1_q3 c1 c2 c3 c4 et11 c12 et15 et16 et17) hP hD hS dJ6_numberOfLeadingZeros_0f7a4_78 (Nat.le_refl _) (Nat.le_refl _)
      · skip
        refine lv_iinc (v := 23) (lv' := [(1, .int 23), (0, .int p0)]) hx hb dJ6_numberOfLeadingZeros_0f7a4_40 hl (k := 0) rfl (by decide) (by decide) rfl (fun ls hl => ?_)
        refine lv_iload_n hx hb dJ6_numberOfLeadingZeros_0f7a4_43 rfl (lv_at hl 1 rfl) ?_
        refine lv_bipush (v := 8) hx hb dJ6_numberOfLeadingZeros_0f7a4_44 rfl ?_
        refine lv_iushr hx hb dJ6_numberOfLeadingZeros_0f7a4_46 rfl ?_
        refine lv_topi (fun t18 et18 => ?_)
        refine lv_istore_n (lv' := [(0, .int t18), (1, .int 23)]) hx hb dJ6_numberOfLeadingZeros_0f7a4_47 rfl hl (Nat.le_of_ble_eq_true rfl) rfl (fun ls hl => ?_)
        refine lv_iload_n hx hb dJ6_numberOfLeadingZeros_0f7a4_48 rfl (lv_at hl 0 rfl) ?_
        refine lv_bipush (v := 16) hx hb dJ6_numberOfLeadingZeros_0f7a4_49 rfl ?_
        refine lv_icmp_lt (tgt := 61) hx hb dJ6_numberOfLeadingZeros_0f7a4_51 rfl (fun c19 => ?_) (fun c19 => ?_)
        · skip
          refine lv_iload_n hx hb dJ6_numberOfLeadingZeros_0f7a4_61 rfl (lv_at hl 0 rfl) ?_
          refine lv_iconst (v := 4) hx hb dJ6_numberOfLeadingZeros_0f7a4_62 rfl ?_
          refine lv_icmp_lt (tgt := 73) hx hb dJ6_numberOfLeadingZeros_0f7a4_63 rfl (fun c20 => ?_) (fun c20 => ?_)
          · skip
            refine lv_iload_n hx hb dJ6_numberOfLeadingZeros_0f7a4_73 rfl (lv_at hl 1 rfl) ?_
            refine lv_iload_n hx hb dJ6_numberOfLeadingZeros_0f7a4_74 rfl (lv_at hl 0 rfl) ?_
            refine lv_iconst (v := 1) hx hb dJ6_numberOfLeadingZeros_0f7a4_75 rfl ?_
            refine lv_iushr hx hb dJ6_numberOfLeadingZeros_0f7a4_76 rfl ?_
            refine lv_topi (fun t21 et21 => ?_)
            refine lv_isub hx hb dJ6_numberOfLeadingZeros_0f7a4_77 ?_
            refine lv_topi (fun t22 et22 => ?_)
            exact ret t22 () _ _ _ _ _ _ rfl (gsX_J6_numberOfLeadingZeros_0f7a4_1_q4 c1 c2 c3 et18 c19 c20 et21 et22) hP hD hS dJ6_numberOfLeadingZeros_0f7a4_78 (Nat.le_refl _) (Nat.le_refl _)
          · skip
            refine lv_iinc (v := 21) (lv' := [(1, .int 21), (0, .int t18)]) hx hb dJ6_numberOfLeadingZeros_0f7a4_66 hl (k := 1) rfl (by decide) (by decide) rfl (fun ls hl => ?_)
            refine lv_iload_n hx hb dJ6_numberOfLeadingZeros_0f7a4_69 rfl (lv_at hl 1 rfl) ?_
            refine lv_iconst (v := 2) hx hb dJ6_numberOfLeadingZeros_0f7a4_70 rfl ?_
            refine lv_iushr hx hb dJ6_numberOfLeadingZeros_0f7a4_71 rfl ?_
            refine lv_topi (fun t23 et23 => ?_)
            refine lv_istore_n (lv' := [(0, .int t23), (1, .int 21)]) hx hb dJ6_numberOfLeadingZeros_0f7a4_72 rfl hl (Nat.le_of_ble_eq_true rfl) rfl (fun ls hl => ?_)
            refine lv_iload_n hx hb dJ6_numberOfLeadingZeros_0f7a4_73 rfl (lv_at hl 1 rfl) ?_
            refine lv_iload_n hx hb dJ6_numberOfLeadingZeros_0f7a4_74 rfl (lv_at hl 0 rfl) ?_
            refine lv_iconst (v := 1) hx hb dJ6_numberOfLeadingZeros_0f7a4_75 rfl ?_
            refine lv_iushr hx hb dJ6_numberOfLeadingZeros_0f7a4_76 rfl ?_
            refine lv_topi (fun t24 et24 => ?_)
            refine lv_isub hx hb dJ6_numberOfLeadingZeros_0f7a4_77 ?_
            refine lv_topi (fun t25 et25 => ?_)
            exact ret t25 () _ _ _ _ _ _ rfl (gsX_J6_numberOfLeadingZeros_0f7a4_1_q5 c1 c2 c3 et18 c19 c20 et23 et24 et25) hP hD hS dJ6_numberOfLeadingZeros_0f7a4_78 (Nat.le_refl _) (Nat.le_refl _)
        · skip
          refine lv_iinc (v := 19) (lv' := [(1, .int 19), (0, .int t18)]) hx hb dJ6_numberOfLeadingZeros_0f7a4_54 hl (k := 1) rfl (by decide) (by decide) rfl (fun ls hl => ?_)
          refine lv_iload_n hx hb dJ6_numberOfLeadingZeros_0f7a4_57 rfl (lv_at hl 1 rfl) ?_
          refine lv_iconst (v := 4) hx hb dJ6_numberOfLeadingZeros_0f7a4_58 rfl ?_
          refine lv_iushr hx hb dJ6_numberOfLeadingZeros_0f7a4_59 rfl ?_
          refine lv_topi (fun t26 et26 => ?_)
          refine lv_istore_n (lv' := [(0, .int t26), (1, .int 19)]) hx hb dJ6_numberOfLeadingZeros_0f7a4_60 rfl hl (Nat.le_of_ble_eq_true rfl) rfl (fun ls hl => ?_)
          refine lv_iload_n hx hb dJ6_numberOfLeadingZeros_0f7a4_61 rfl (lv_at hl 0 rfl) ?_
          refine lv_iconst (v := 4) hx hb dJ6_numberOfLeadingZeros_0f7a4_62 rfl ?_
          refine lv_icmp_lt (tgt := 73) hx hb dJ6_numberOfLeadingZeros_0f7a4_63 rfl (fun c27 => ?_) (fun c27 => ?_)
          · skip
            refine lv_iload_n hx hb dJ6_numberOfLeadingZeros_0f7a4_73 rfl (lv_at hl 1 rfl) ?_
            refine lv_iload_n hx hb dJ6_numberOfLeadingZeros_0f7a4_74 rfl (lv_at hl 0 rfl) ?_
            refine lv_iconst (v := 1) hx hb dJ6_numberOfLeadingZeros_0f7a4_75 rfl ?_
            refine lv_iushr hx hb dJ6_numberOfLeadingZeros_0f7a4_76 rfl ?_
            refine lv_topi (fun t28 et28 => ?_)
            refine lv_isub hx hb dJ6_numberOfLeadingZeros_0f7a4_77 ?_
            refine lv_topi (fun t29 et29 => ?_)
            exact ret t29 () _ _ _ _ _ _ rfl (gsX_J6_numberOfLeadingZeros_0f7a4_1_q6 c1 c2 c3 et18 c19 et26 c27 et28 et29) hP hD hS dJ6_numberOfLeadingZeros_0f7a4_78 (Nat.le_refl _) (Nat.le_refl _)
          · skip
            refine lv_iinc (v := 17) (lv' := [(1, .int 17), (0, .int t26)]) hx hb dJ6_numberOfLeadingZeros_0f7a4_66 hl (k := 1) rfl (by decide) (by decide) rfl (fun ls hl => ?_)
            refine lv_iload_n hx hb dJ6_numberOfLeadingZeros_0f7a4_69 rfl (lv_at hl 1 rfl) ?_
            refine lv_iconst (v := 2) hx hb dJ6_numberOfLeadingZeros_0f7a4_70 rfl ?_
            refine lv_iushr hx hb dJ6_numberOfLeadingZeros_0f7a4_71 rfl ?_
            refine lv_topi (fun t30 et30 => ?_)
            refine lv_istore_n (lv' := [(0, .int t30), (1, .int 17)]) hx hb dJ6_numberOfLeadingZeros_0f7a4_72 rfl hl (Nat.le_of_ble_eq_true rfl) rfl (fun ls hl => ?_)
            refine lv_iload_n hx hb dJ6_numberOfLeadingZeros_0f7a4_73 rfl (lv_at hl 1 rfl) ?_
            refine lv_iload_n hx hb dJ6_numberOfLeadingZeros_0f7a4_74 rfl (lv_at hl 0 rfl) ?_
            refine lv_iconst (v := 1) hx hb dJ6_numberOfLeadingZeros_0f7a4_75 rfl ?_
            refine lv_iushr hx hb dJ6_numberOfLeadingZeros_0f7a4_76 rfl ?_
            refine lv_topi (fun t31 et31 => ?_)
            refine lv_isub hx hb dJ6_numberOfLeadingZeros_0f7a4_77 ?_
            refine lv_topi (fun t32 et32 => ?_)
            exact ret t32 () _ _ _ _ _ _ rfl (gsX_J6_numberOfLeadingZeros_0f7a4_1_q7 c1 c2 c3 et18 c19 et26 c27 et30 et31 et32) hP hD hS dJ6_numberOfLeadingZeros_0f7a4_78 (Nat.le_refl _) (Nat.le_refl _)
    · skip
      refine lv_iinc (v := 15) (lv' := [(1, .int 15), (0, .int p0)]) hx hb dJ6_numberOfLeadingZeros_0f7a4_25 hl (k := 0) rfl (by decide) (by decide) rfl (fun ls hl => ?_)
      refine lv_iload_n hx hb dJ6_numberOfLeadingZeros_0f7a4_28 rfl (lv_at hl 1 rfl) ?_
      refine lv_bipush (v := 16) hx hb dJ6_numberOfLeadingZeros_0f7a4_29 rfl ?_
      refine lv_iushr hx hb dJ6_numberOfLeadingZeros_0f7a4_31 rfl ?_
      refine lv_topi (fun t33 et33 => ?_)
      refine lv_istore_n (lv' := [(0, .int t33), (1, .int 15)]) hx hb dJ6_numberOfLeadingZeros_0f7a4_32 rfl hl (Nat.le_of_ble_eq_true rfl) rfl (fun ls hl => ?_)
      refine lv_iload_n hx hb dJ6_numberOfLeadingZeros_0f7a4_33 rfl (lv_at hl 0 rfl) ?_
      refine lv_sipush (v := 256) hx hb dJ6_numberOfLeadingZeros_0f7a4_34 rfl ?_
      refine lv_icmp_lt (tgt := 48) hx hb dJ6_numberOfLeadingZeros_0f7a4_37 rfl (fun c34 => ?_) (fun c34 => ?_)
      · skip
        refine lv_iload_n hx hb dJ6_numberOfLeadingZeros_0f7a4_48 rfl (lv_at hl 0 rfl) ?_
        refine lv_bipush (v := 16) hx hb dJ6_numberOfLeadingZeros_0f7a4_49 rfl ?_
        refine lv_icmp_lt (tgt := 61) hx hb dJ6_numberOfLeadingZeros_0f7a4_51 rfl (fun c35 => ?_) (fun c35 => ?_)
        · skip
          refine lv_iload_n hx hb dJ6_numberOfLeadingZeros_0f7a4_61 rfl (lv_at hl 0 rfl) ?_
          refine lv_iconst (v := 4) hx hb dJ6_numberOfLeadingZeros_0f7a4_62 rfl ?_
          refine lv_icmp_lt (tgt := 73) hx hb dJ6_numberOfLeadingZeros_0f7a4_63 rfl (fun c36 => ?_) (fun c36 => ?_)
          · skip
            refine lv_iload_n hx hb dJ6_numberOfLeadingZeros_0f7a4_73 rfl (lv_at hl 1 rfl) ?_
            refine lv_iload_n hx hb dJ6_numberOfLeadingZeros_0f7a4_74 rfl (lv_at hl 0 rfl) ?_
            refine lv_iconst (v := 1) hx hb dJ6_numberOfLeadingZeros_0f7a4_75 rfl ?_
            refine lv_iushr hx hb dJ6_numberOfLeadingZeros_0f7a4_76 rfl ?_
            refine lv_topi (fun t37 et37 => ?_)
            refine lv_isub hx hb dJ6_numberOfLeadingZeros_0f7a4_77 ?_
            refine lv_topi (fun t38 et38 => ?_)
            exact ret t38 () _ _ _ _ _ _ rfl (gsX_J6_numberOfLeadingZeros_0f7a4_1_q8 c1 c2 et33 c34 c35 c36 et37 et38) hP hD hS dJ6_numberOfLeadingZeros_0f7a4_78 (Nat.le_refl _) (Nat.le_refl _)
          · skip
            refine lv_iinc (v := 13) (lv' := [(1, .int 13), (0, .int t33)]) hx hb dJ6_numberOfLeadingZeros_0f7a4_66 hl (k := 1) rfl (by decide) (by decide) rfl (fun ls hl => ?_)
            refine lv_iload_n hx hb dJ6_numberOfLeadingZeros_0f7a4_69 rfl (lv_at hl 1 rfl) ?_
            refine lv_iconst (v := 2) hx hb dJ6_numberOfLeadingZeros_0f7a4_70 rfl ?_
            refine lv_iushr hx hb dJ6_numberOfLeadingZeros_0f7a4_71 rfl ?_
            refine lv_topi (fun t39 et39 => ?_)
            refine lv_istore_n (lv' := [(0, .int t39), (1, .int 13)]) hx hb dJ6_numberOfLeadingZeros_0f7a4_72 rfl hl (Nat.le_of_ble_eq_true rfl) rfl (fun ls hl => ?_)
            refine lv_iload_n hx hb dJ6_numberOfLeadingZeros_0f7a4_73 rfl (lv_at hl 1 rfl) ?_
            refine lv_iload_n hx hb dJ6_numberOfLeadingZeros_0f7a4_74 rfl (lv_at hl 0 rfl) ?_
            refine lv_iconst (v := 1) hx hb dJ6_numberOfLeadingZeros_0f7a4_75 rfl ?_
            refine lv_iushr hx hb dJ6_numberOfLeadingZeros_0f7a4_76 rfl ?_
            refine lv_topi (fun t40 et40 => ?_)
            refine lv_isub hx hb dJ6_numberOfLeadingZeros_0f7a4_77 ?_
            refine lv_topi (fun t41 et41 => ?_)
            exact ret t41 () _ _ _ _ _ _ rfl (gsX_J6_numberOfLeadingZeros_0f7a4_1_q9 c1 c2 et33 c34 c35 c36 et39 et40 et41) hP hD hS dJ6_numberOfLeadingZeros_0f7a4_78 (Nat.le_refl _) (Nat.le_refl _)
        · skip
          refine lv_iinc (v := 11) (lv' := [(1, .int 11), (0, .int t33)]) hx hb dJ6_numberOfLeadingZeros_0f7a4_54 hl (k := 1) rfl (by decide) (by decide) rfl (fun ls hl => ?_)
          refine lv_iload_n hx hb dJ6_numberOfLeadingZeros_0f7a4_57 rfl (lv_at hl 1 rfl) ?_
          refine lv_iconst (v := 4) hx hb dJ6_numberOfLeadingZeros_0f7a4_58 rfl ?_
          refine lv_iushr hx hb dJ6_numberOfLeadingZeros_0f7a4_59 rfl ?_
          refine lv_topi (fun t42 et42 => ?_)
          refine lv_istore_n (lv' := [(0, .int t42), (1, .int 11)]) hx hb dJ6_numberOfLeadingZeros_0f7a4_60 rfl hl (Nat.le_of_ble_eq_true rfl) rfl (fun ls hl => ?_)
          refine lv_iload_n hx hb dJ6_numberOfLeadingZeros_0f7a4_61 rfl (lv_at hl 0 rfl) ?_
          refine lv_iconst (v := 4) hx hb dJ6_numberOfLeadingZeros_0f7a4_62 rfl ?_
          refine lv_icmp_lt (tgt := 73) hx hb dJ6_numberOfLeadingZeros_0f7a4_63 rfl (fun c43 => ?_) (fun c43 => ?_)
          · skip
            refine lv_iload_n hx hb dJ6_numberOfLeadingZeros_0f7a4_73 rfl (lv_at hl 1 rfl) ?_
            refine lv_iload_n hx hb dJ6_numberOfLeadingZeros_0f7a4_74 rfl (lv_at hl 0 rfl) ?_
            refine lv_iconst (v := 1) hx hb dJ6_numberOfLeadingZeros_0f7a4_75 rfl ?_
            refine lv_iushr hx hb dJ6_numberOfLeadingZeros_0f7a4_76 rfl ?_
            refine lv_topi (fun t44 et44 => ?_)
            refine lv_isub hx hb dJ6_numberOfLeadingZeros_0f7a4_77 ?_
            refine lv_topi (fun t45 et45 => ?_)
            exact ret t45 () _ _ _ _ _ _ rfl (gsX_J6_numberOfLeadingZeros_0f7a4_1_q10 c1 c2 et33 c34 c35 et42 c43 et44 et45) hP hD hS dJ6_numberOfLeadingZeros_0f7a4_78 (Nat.le_refl _) (Nat.le_refl _)
          · skip
            refine lv_iinc (v := 9) (lv' := [(1, .int 9), (0, .int t42)]) hx hb dJ6_numberOfLeadingZeros_0f7a4_66 hl (k := 1) rfl (by decide) (by decide) rfl (fun ls hl => ?_)
            refine lv_iload_n hx hb dJ6_numberOfLeadingZeros_0f7a4_69 rfl (lv_at hl 1 rfl) ?_
            refine lv_iconst (v := 2) hx hb dJ6_numberOfLeadingZeros_0f7a4_70 rfl ?_
            refine lv_iushr hx hb dJ6_numberOfLeadingZeros_0f7a4_71 rfl ?_
            refine lv_topi (fun t46 et46 => ?_)
            refine lv_istore_n (lv' := [(0, .int t46), (1, .int 9)]) hx hb dJ6_numberOfLeadingZeros_0f7a4_72 rfl hl (Nat.le_of_ble_eq_true rfl) rfl (fun ls hl => ?_)
            refine lv_iload_n hx hb dJ6_numberOfLeadingZeros_0f7a4_73 rfl (lv_at hl 1 rfl) ?_
            refine lv_iload_n hx hb dJ6_numberOfLeadingZeros_0f7a4_74 rfl (lv_at hl 0 rfl) ?_
            refine lv_iconst (v := 1) hx hb dJ6_numberOfLeadingZeros_0f7a4_75 rfl ?_
            refine lv_iushr hx hb dJ6_numberOfLeadingZeros_0f7a4_76 rfl ?_
            refine lv_topi (fun t47 et47 => ?_)
            refine lv_isub hx hb dJ6_numberOfLeadingZeros_0f7a4_77 ?_
            refine lv_topi (fun t48 et48 => ?_)
            exact ret t48 () _ _ _ _ _ _ rfl (gsX_J6_numberOfLeadingZeros_0f7a4_1_q11 c1 c2 et33 c34 c35 et42 c43 et46 et47 et48) hP hD hS dJ6_numberOfLeadingZeros_0f7a4_78 (Nat.le_refl _) (Nat.le_refl _)
      · skip
        refine lv_iinc (v := 7) (lv' := [(1, .int 7), (0, .int t33)]) hx hb dJ6_numberOfLeadingZeros_0f7a4_40 hl (k := 1) rfl (by decide) (by decide) rfl (fun ls hl => ?_)
        refine lv_iload_n hx hb dJ6_numberOfLeadingZeros_0f7a4_43 rfl (lv_at hl 1 rfl) ?_
        refine lv_bipush (v := 8) hx hb dJ6_numberOfLeadingZeros_0f7a4_44 rfl ?_
        refine lv_iushr hx hb dJ6_numberOfLeadingZeros_0f7a4_46 rfl ?_
        refine lv_topi (fun t49 et49 => ?_)
        refine lv_istore_n (lv' := [(0, .int t49), (1, .int 7)]) hx hb dJ6_numberOfLeadingZeros_0f7a4_47 rfl hl (Nat.le_of_ble_eq_true rfl) rfl (fun ls hl => ?_)
        refine lv_iload_n hx hb dJ6_numberOfLeadingZeros_0f7a4_48 rfl (lv_at hl 0 rfl) ?_
        refine lv_bipush (v := 16) hx hb dJ6_numberOfLeadingZeros_0f7a4_49 rfl ?_
        refine lv_icmp_lt (tgt := 61) hx hb dJ6_numberOfLeadingZeros_0f7a4_51 rfl (fun c50 => ?_) (fun c50 => ?_)
        · skip
          refine lv_iload_n hx hb dJ6_numberOfLeadingZeros_0f7a4_61 rfl (lv_at hl 0 rfl) ?_
          refine lv_iconst (v := 4) hx hb dJ6_numberOfLeadingZeros_0f7a4_62 rfl ?_
          refine lv_icmp_lt (tgt := 73) hx hb dJ6_numberOfLeadingZeros_0f7a4_63 rfl (fun c51 => ?_) (fun c51 => ?_)
          · skip
            refine lv_iload_n hx hb dJ6_numberOfLeadingZeros_0f7a4_73 rfl (lv_at hl 1 rfl) ?_
            refine lv_iload_n hx hb dJ6_numberOfLeadingZeros_0f7a4_74 rfl (lv_at hl 0 rfl) ?_
            refine lv_iconst (v := 1) hx hb dJ6_numberOfLeadingZeros_0f7a4_75 rfl ?_
            refine lv_iushr hx hb dJ6_numberOfLeadingZeros_0f7a4_76 rfl ?_
            refine lv_topi (fun t52 et52 => ?_)
            refine lv_isub hx hb dJ6_numberOfLeadingZeros_0f7a4_77 ?_
            refine lv_topi (fun t53 et53 => ?_)
            exact ret t53 () _ _ _ _ _ _ rfl (gsX_J6_numberOfLeadingZeros_0f7a4_1_q12 c1 c2 et33 c34 et49 c50 c51 et52 et53) hP hD hS dJ6_numberOfLeadingZeros_0f7a4_78 (Nat.le_refl _) (Nat.le_refl _)
          · skip
            refine lv_iinc (v := 5) (lv' := [(1, .int 5), (0, .int t49)]) hx hb dJ6_numberOfLeadingZeros_0f7a4_66 hl (k := 1) rfl (by decide) (by decide) rfl (fun ls hl => ?_)
            refine lv_iload_n hx hb dJ6_numberOfLeadingZeros_0f7a4_69 rfl (lv_at hl 1 rfl) ?_
            refine lv_iconst (v := 2) hx hb dJ6_numberOfLeadingZeros_0f7a4_70 rfl ?_
            refine lv_iushr hx hb dJ6_numberOfLeadingZeros_0f7a4_71 rfl ?_
            refine lv_topi (fun t54 et54 => ?_)
            refine lv_istore_n (lv' := [(0, .int t54), (1, .int 5)]) hx hb dJ6_numberOfLeadingZeros_0f7a4_72 rfl hl (Nat.le_of_ble_eq_true rfl) rfl (fun ls hl => ?_)
            refine lv_iload_n hx hb dJ6_numberOfLeadingZeros_0f7a4_73 rfl (lv_at hl 1 rfl) ?_
            refine lv_iload_n hx hb dJ6_numberOfLeadingZeros_0f7a4_74 rfl (lv_at hl 0 rfl) ?_
            refine lv_iconst (v := 1) hx hb dJ6_numberOfLeadingZeros_0f7a4_75 rfl ?_
            refine lv_iushr hx hb dJ6_numberOfLeadingZeros_0f7a4_76 rfl ?_
            refine lv_topi (fun t55 et55 => ?_)
            refine lv_isub hx hb dJ6_numberOfLeadingZeros_0f7a4_77 ?_
            refine lv_topi (fun t56 et56 => ?_)
            exact ret t56 () _ _ _ _ _ _ rfl (gsX_J6_numberOfLeadingZeros_0f7a4_1_q13 c1 c2 et33 c34 et49 c50 c51 et54 et55 et56) hP hD hS dJ6_numberOfLeadingZeros_0f7a4_78 (Nat.le_refl _) (Nat.le_refl _)
        · skip
          refine lv_iinc (v := 3) (lv' := [(1, .int 3), (0, .int t49)]) hx hb dJ6_numberOfLeadingZeros_0f7a4_54 hl (k := 1) rfl (by decide) (by decide) rfl (fun ls hl => ?_)
          refine lv_iload_n hx hb dJ6_numberOfLeadingZeros_0f7a4_57 rfl (lv_at hl 1 rfl) ?_
          refine lv_iconst (v := 4) hx hb dJ6_numberOfLeadingZeros_0f7a4_58 rfl ?_
          refine lv_iushr hx hb dJ6_numberOfLeadingZeros_0f7a4_59 rfl ?_
          refine lv_topi (fun t57 et57 => ?_)
          refine lv_istore_n (lv' := [(0, .int t57), (1, .int 3)]) hx hb dJ6_numberOfLeadingZeros_0f7a4_60 rfl hl (Nat.le_of_ble_eq_true rfl) rfl (fun ls hl => ?_)
          refine lv_iload_n hx hb dJ6_numberOfLeadingZeros_0f7a4_61 rfl (lv_at hl 0 rfl) ?_
          refine lv_iconst (v := 4) hx hb dJ6_numberOfLeadingZeros_0f7a4_62 rfl ?_
          refine lv_icmp_lt (tgt := 73) hx hb dJ6_numberOfLeadingZeros_0f7a4_63 rfl (fun c58 => ?_) (fun c58 => ?_)
          · skip
            refine lv_iload_n hx hb dJ6_numberOfLeadingZeros_0f7a4_73 rfl (lv_at hl 1 rfl) ?_
            refine lv_iload_n hx hb dJ6_numberOfLeadingZeros_0f7a4_74 rfl (lv_at hl 0 rfl) ?_
            refine lv_iconst (v := 1) hx hb dJ6_numberOfLeadingZeros_0f7a4_75 rfl ?_
            refine lv_iushr hx hb dJ6_numberOfLeadingZeros_0f7a4_76 rfl ?_
            refine lv_topi (fun t59 et59 => ?_)
            refine lv_isub hx hb dJ6_numberOfLeadingZeros_0f7a4_77 ?_
            refine lv_topi (fun t60 et60 => ?_)
            exact ret t60 () _ _ _ _ _ _ rfl (gsX_J6_numberOfLeadingZeros_0f7a4_1_q14 c1 c2 et33 c34 et49 c50 et57 c58 et59 et60) hP hD hS dJ6_numberOfLeadingZeros_0f7a4_78 (Nat.le_refl _) (Nat.le_refl _)
          · skip
            refine lv_iinc (v := 1) (lv' := [(1, .int 1), (0, .int t57)]) hx hb dJ6_numberOfLeadingZeros_0f7a4_66 hl (k := 1) rfl (by decide) (by decide) rfl (fun ls hl => ?_)
            refine lv_iload_n hx hb dJ6_numberOfLeadingZeros_0f7a4_69 rfl (lv_at hl 1 rfl) ?_
            refine lv_iconst (v := 2) hx hb dJ6_numberOfLeadingZeros_0f7a4_70 rfl ?_
            refine lv_iushr hx hb dJ6_numberOfLeadingZeros_0f7a4_71 rfl ?_
            refine lv_topi (fun t61 et61 => ?_)
            refine lv_istore_n (lv' := [(0, .int t61), (1, .int 1)]) hx hb dJ6_numberOfLeadingZeros_0f7a4_72 rfl hl (Nat.le_of_ble_eq_true rfl) rfl (fun ls hl => ?_)
            refine lv_iload_n hx hb dJ6_numberOfLeadingZeros_0f7a4_73 rfl (lv_at hl 1 rfl) ?_
            refine lv_iload_n hx hb dJ6_numberOfLeadingZeros_0f7a4_74 rfl (lv_at hl 0 rfl) ?_
            refine lv_iconst (v := 1) hx hb dJ6_numberOfLeadingZeros_0f7a4_75 rfl ?_
            refine lv_iushr hx hb dJ6_numberOfLeadingZeros_0f7a4_76 rfl ?_
            refine lv_topi (fun t62 et62 => ?_)
            refine lv_isub hx hb dJ6_numberOfLeadingZeros_0f7a4_77 ?_
            refine lv_topi (fun t63 et63 => ?_)
            exact ret t63 () _ _ _ _ _ _ rfl (gsX_J6_numberOfLeadingZeros_0f7a4_1_q15 c1 c2 et33 c34 et49 c50 et57 c58 et61 et62 et63) hP hD hS dJ6_numberOfLeadingZeros_0f7a4_78 (Nat.le_refl _) (Nat.le_refl _)
  · skip
    refine lv_iload_n hx hb dJ6_numberOfLeadingZeros_0f7a4_4 rfl (lv_at hl 0 rfl) ?_
    refine lv_if_ne (tgt := 13) hx hb dJ6_numberOfLeadingZeros_0f7a4_5 rfl (fun c64 => ?_) (fun c64 => ?_)
    · skip
      refine lv_iconst (v := 0) hx hb dJ6_numberOfLeadingZeros_0f7a4_13 rfl ?_
      exact ret 0 () _ _ _ _ _ _ rfl (gsX_J6_numberOfLeadingZeros_0f7a4_1_q16 c1 c64) hP hD hS dJ6_numberOfLeadingZeros_0f7a4_14 (Nat.le_refl _) (Nat.le_refl _)
    · skip
      refine lv_bipush (v := 32) hx hb dJ6_numberOfLeadingZeros_0f7a4_8 rfl ?_
      refine lv_goto (tgt := 14) hx hb dJ6_numberOfLeadingZeros_0f7a4_10 rfl ?_
      exact ret 32 () _ _ _ _ _ _ rfl (gsX_J6_numberOfLeadingZeros_0f7a4_1_q17 c1 c64) hP hD hS dJ6_numberOfLeadingZeros_0f7a4_14 (Nat.le_refl _) (Nat.le_refl _)
set_option maxHeartbeats 4000000 in
set_option maxRecDepth 100000 in
theorem sX_J6_numberOfTrailingZeros_0f7a4_1 (NF : Nat) (l : Launch) (dC : Nat → ClassId) (dI : Nat → Nat → Nat) (cy : Nat → ClassId) (x0 : Nat) (x : Nat → Nat) (p0 : Int32) (v : Nat → Int32) (f : Nat → Nat → Int32) (hIv : XI v)  : ctI l (dC, dI) cy yJ6_numberOfTrailingZeros_0f7a4 cJ6_numberOfTrailingZeros_0f7a4 2 .int 1 60 0 0 Unit [.int p0] (XW cy x0 x v f) (fun r u => gsX_J6_numberOfTrailingZeros_0f7a4_1 NF p0 v f = r) (fun u => XW cy x0 x v f) := by
  refine ctI_of (by decide) (Nat.le_of_ble_eq_true rfl) (fun p e s m below meth c A ls Q hx hb hml hts hown hE hP hD hA hl ret => ?_)
  have hown : s.vm.findClass RJ6 = some m.cls := hown
  have hS : va_S A s.heap s.heap [] := va_S.rf
  have hl : lv_has ls 2 [(0, .int p0)] := hl
  refine lv_iload_n hx hb dJ6_numberOfTrailingZeros_0f7a4_0 rfl (lv_at hl 0 rfl) ?_
  refine lv_iconst (v := (-1)) hx hb dJ6_numberOfTrailingZeros_0f7a4_1 rfl ?_
  refine lv_ixor hx hb dJ6_numberOfTrailingZeros_0f7a4_2 ?_
  refine lv_topi (fun t1 et1 => ?_)
  refine lv_iload_n hx hb dJ6_numberOfTrailingZeros_0f7a4_3 rfl (lv_at hl 0 rfl) ?_
  refine lv_iconst (v := 1) hx hb dJ6_numberOfTrailingZeros_0f7a4_4 rfl ?_
  refine lv_isub hx hb dJ6_numberOfTrailingZeros_0f7a4_5 ?_
  refine lv_topi (fun t2 et2 => ?_)
  refine lv_iand hx hb dJ6_numberOfTrailingZeros_0f7a4_6 ?_
  refine lv_topi (fun t3 et3 => ?_)
  refine lv_istore_n (lv' := [(0, .int t3)]) hx hb dJ6_numberOfTrailingZeros_0f7a4_7 rfl hl (Nat.le_of_ble_eq_true rfl) rfl (fun ls hl => ?_)
  refine lv_iload_n hx hb dJ6_numberOfTrailingZeros_0f7a4_8 rfl (lv_at hl 0 rfl) ?_
  refine lv_if_gt (tgt := 17) hx hb dJ6_numberOfTrailingZeros_0f7a4_9 rfl (fun c4 => ?_) (fun c4 => ?_)
  · skip
    refine lv_iconst (v := 1) hx hb dJ6_numberOfTrailingZeros_0f7a4_17 rfl ?_
    refine lv_istore_n (lv' := [(1, .int 1), (0, .int t3)]) hx hb dJ6_numberOfTrailingZeros_0f7a4_18 rfl hl (Nat.le_of_ble_eq_true rfl) rfl (fun ls hl => ?_)
    refine lv_iload_n hx hb dJ6_numberOfTrailingZeros_0f7a4_19 rfl (lv_at hl 1 rfl) ?_
    refine lv_ldcw (v := 65536) hx hb hown (hts _ k_1271) dJ6_numberOfTrailingZeros_0f7a4_20 ?_
    refine lv_icmp_le (tgt := 34) hx hb dJ6_numberOfTrailingZeros_0f7a4_23 rfl (fun c5 => ?_) (fun c5 => ?_)
    · skip
      refine lv_iload_n hx hb dJ6_numberOfTrailingZeros_0f7a4_34 rfl (lv_at hl 1 rfl) ?_
      refine lv_sipush (v := 256) hx hb dJ6_numberOfTrailingZeros_0f7a4_35 rfl ?_
      refine lv_icmp_le (tgt := 49) hx hb dJ6_numberOfTrailingZeros_0f7a4_38 rfl (fun c6 => ?_) (fun c6 => ?_)
      · skip
        refine lv_iload_n hx hb dJ6_numberOfTrailingZeros_0f7a4_49 rfl (lv_at hl 1 rfl) ?_
        refine lv_bipush (v := 16) hx hb dJ6_numberOfTrailingZeros_0f7a4_50 rfl ?_
        refine lv_icmp_le (tgt := 62) hx hb dJ6_numberOfTrailingZeros_0f7a4_52 rfl (fun c7 => ?_) (fun c7 => ?_)
        · skip
          refine lv_iload_n hx hb dJ6_numberOfTrailingZeros_0f7a4_62 rfl (lv_at hl 1 rfl) ?_
          refine lv_iconst (v := 4) hx hb dJ6_numberOfTrailingZeros_0f7a4_63 rfl ?_
          refine lv_icmp_le (tgt := 74) hx hb dJ6_numberOfTrailingZeros_0f7a4_64 rfl (fun c8 => ?_) (fun c8 => ?_)
          · skip
            refine lv_iload_n hx hb dJ6_numberOfTrailingZeros_0f7a4_74 rfl (lv_at hl 0 rfl) ?_
            refine lv_iload_n hx hb dJ6_numberOfTrailingZeros_0f7a4_75 rfl (lv_at hl 1 rfl) ?_
            refine lv_iconst (v := 1) hx hb dJ6_numberOfTrailingZeros_0f7a4_76 rfl ?_
            refine lv_iushr hx hb dJ6_numberOfTrailingZeros_0f7a4_77 rfl ?_
            refine lv_topi (fun t9 et9 => ?_)
            refine lv_iadd hx hb dJ6_numberOfTrailingZeros_0f7a4_78 ?_
            refine lv_topi (fun t10 et10 => ?_)
            exact ret t10 () _ _ _ _ _ _ rfl (gsX_J6_numberOfTrailingZeros_0f7a4_1_q0 et1 et2 et3 c4 c5 c6 c7 c8 et9 et10) hP hD hS dJ6_numberOfTrailingZeros_0f7a4_79 (Nat.le_refl _) (Nat.le_refl _)
          · skip
            refine lv_iinc (v := 3) (lv' := [(1, .int 3), (0, .int t3)]) hx hb dJ6_numberOfTrailingZeros_0f7a4_67 hl (k := 0) rfl (by decide) (by decide) rfl (fun ls hl => ?_)
            refine lv_iload_n hx hb dJ6_numberOfTrailingZeros_0f7a4_70 rfl (lv_at hl 1 rfl) ?_
            refine lv_iconst (v := 2) hx hb dJ6_numberOfTrailingZeros_0f7a4_71 rfl ?_
            refine lv_iushr hx hb dJ6_numberOfTrailingZeros_0f7a4_72 rfl ?_
            refine lv_topi (fun t11 et11 => ?_)
            refine lv_istore_n (lv' := [(0, .int t11), (1, .int 3)]) hx hb dJ6_numberOfTrailingZeros_0f7a4_73 rfl hl (Nat.le_of_ble_eq_true rfl) rfl (fun ls hl => ?_)
            refine lv_iload_n hx hb dJ6_numberOfTrailingZeros_0f7a4_74 rfl (lv_at hl 1 rfl) ?_
            refine lv_iload_n hx hb dJ6_numberOfTrailingZeros_0f7a4_75 rfl (lv_at hl 0 rfl) ?_
            refine lv_iconst (v := 1) hx hb dJ6_numberOfTrailingZeros_0f7a4_76 rfl ?_
            refine lv_iushr hx hb dJ6_numberOfTrailingZeros_0f7a4_77 rfl ?_
            refine lv_topi (fun t12 et12 => ?_)
            refine lv_iadd hx hb dJ6_numberOfTrailingZeros_0f7a4_78 ?_
            refine lv_topi (fun t13 et13 => ?_)
            exact ret t13 () _ _ _ _ _ _ rfl (gsX_J6_numberOfTrailingZeros_0f7a4_1_q1 et1 et2 et3 c4 c5 c6 c7 c8 et11 et12 et13) hP hD hS dJ6_numberOfTrailingZeros_0f7a4_79 (Nat.le_refl _) (Nat.le_refl _)
        · skip
          refine lv_iinc (v := 5) (lv' := [(1, .int 5), (0, .int t3)]) hx hb dJ6_numberOfTrailingZeros_0f7a4_55 hl (k := 0) rfl (by decide) (by decide) rfl (fun ls hl => ?_)
          refine lv_iload_n hx hb dJ6_numberOfTrailingZeros_0f7a4_58 rfl (lv_at hl 1 rfl) ?_
          refine lv_iconst (v := 4) hx hb dJ6_numberOfTrailingZeros_0f7a4_59 rfl ?_
          refine lv_iushr hx hb dJ6_numberOfTrailingZeros_0f7a4_60 rfl ?_
          refine lv_topi (fun t14 et14 => ?_)
          refine lv_istore_n (lv' := [(0, .int t14), (1, .int 5)]) hx hb dJ6_numberOfTrailingZeros_0f7a4_61 rfl hl (Nat.le_of_ble_eq_true rfl) rfl (fun ls hl => ?_)
          refine lv_iload_n hx hb dJ6_numberOfTrailingZeros_0f7a4_62 rfl (lv_at hl 0 rfl) ?_
          refine lv_iconst (v := 4) hx hb dJ6_numberOfTrailingZeros_0f7a4_63 rfl ?_
          refine lv_icmp_le (tgt := 74) hx hb dJ6_numberOfTrailingZeros_0f7a4_64 rfl (fun c15 => ?_) (fun c15 => ?_)
          · skip
            refine lv_iload_n hx hb dJ6_numberOfTrailingZeros_0f7a4_74 rfl (lv_at hl 1 rfl) ?_
            refine lv_iload_n hx hb dJ6_numberOfTrailingZeros_0f7a4_75 rfl (lv_at hl 0 rfl) ?_
            refine lv_iconst (v := 1) hx hb dJ6_numberOfTrailingZeros_0f7a4_76 rfl ?_
            refine lv_iushr hx hb dJ6_numberOfTrailingZeros_0f7a4_77 rfl ?_
            refine lv_topi (fun t16 et16 => ?_)
            refine lv_iadd hx hb dJ6_numberOfTrailingZeros_0f7a4_78 ?_
            refine lv_topi (fun t17 et17 => ?_)
            exact ret t17 () _ _ _ _ _ _ rfl (gsX_J6_numberOfTrailingZeros_0f7a4_1_q2 et1 et2 et3 c4 c5 c6 c7 et14 c15 et16 et17) hP hD hS dJ6_numberOfTrailingZeros_0f7a4_79 (Nat.le_refl _) (Nat.le_refl _)
          · skip
            refine lv_iinc (v := 7) (lv' := [(1, .int 7), (0, .int t14)]) hx hb dJ6_numberOfTrailingZeros_0f7a4_67 hl (k := 1) rfl (by decide) (by decide) rfl (fun ls hl => ?_)
            refine lv_iload_n hx hb dJ6_numberOfTrailingZeros_0f7a4_70 rfl (lv_at hl 1 rfl) ?_
            refine lv_iconst (v := 2) hx hb dJ6_numberOfTrailingZeros_0f7a4_71 rfl ?_
            refine lv_iushr hx hb dJ6_numberOfTrailingZeros_0f7a4_72 rfl ?_
            refine lv_topi (fun t18 et18 => ?_)
            refine lv_istore_n (lv' := [(0, .int t18), (1, .int 7)]) hx hb dJ6_numberOfTrailingZeros_0f7a4_73 rfl hl (Nat.le_of_ble_eq_true rfl) rfl (fun ls hl => ?_)
            refine lv_iload_n hx hb dJ6_numberOfTrailingZeros_0f7a4_74 rfl (lv_at hl 1 rfl) ?_
            refine lv_iload_n hx hb dJ6_numberOfTrailingZeros_0f7a4_75 rfl (lv_at hl 0 rfl) ?_
            refine lv_iconst (v := 1) hx hb dJ6_numberOfTrailingZeros_0f7a4_76 rfl ?_
            refine lv_iushr hx hb dJ6_numberOfTrailingZeros_0f7a4_77 rfl ?_
            refine lv_topi (fun t19 et19 => ?_)
            refine lv_iadd hx hb dJ6_numberOfTrailingZeros_0f7a4_78 ?_
            refine lv_topi (fun t20 et20 => ?_)
            exact ret t20 () _ _ _ _ _ _ rfl (gsX_J6_numberOfTrailingZeros_0f7a4_1_q3 et1 et2 et3 c4 c5 c6 c7 et14 c15 et18 et19 et20) hP hD hS dJ6_numberOfTrailingZeros_0f7a4_79 (Nat.le_refl _) (Nat.le_refl _)
      · skip
        refine lv_iinc (v := 9) (lv' := [(1, .int 9), (0, .int t3)]) hx hb dJ6_numberOfTrailingZeros_0f7a4_41 hl (k := 0) rfl (by decide) (by decide) rfl (fun ls hl => ?_)
        refine lv_iload_n hx hb dJ6_numberOfTrailingZeros_0f7a4_44 rfl (lv_at hl 1 rfl) ?_
        refine lv_bipush (v := 8) hx hb dJ6_numberOfTrailingZeros_0f7a4_45 rfl ?_
        refine lv_iushr hx hb dJ6_numberOfTrailingZeros_0f7a4_47 rfl ?_
        refine lv_topi (fun t21 et21 => ?_)
        refine lv_istore_n (lv' := [(0, .int t21), (1, .int 9)]) hx hb dJ6_numberOfTrailingZeros_0f7a4_48 rfl hl (Nat.le_of_ble_eq_true rfl) rfl (fun ls hl => ?_)
        refine lv_iload_n hx hb dJ6_numberOfTrailingZeros_0f7a4_49 rfl (lv_at hl 0 rfl) ?_
        refine lv_bipush (v := 16) hx hb dJ6_numberOfTrailingZeros_0f7a4_50 rfl ?_
        refine lv_icmp_le (tgt := 62) hx hb dJ6_numberOfTrailingZeros_0f7a4_52 rfl (fun c22 => ?_) (fun c22 => ?_)
        · skip
          refine lv_iload_n hx hb dJ6_numberOfTrailingZeros_0f7a4_62 rfl (lv_at hl 0 rfl) ?_
          refine lv_iconst (v := 4) hx hb dJ6_numberOfTrailingZeros_0f7a4_63 rfl ?_
          refine lv_icmp_le (tgt := 74) hx hb dJ6_numberOfTrailingZeros_0f7a4_64 rfl (fun c23 => ?_) (fun c23 => ?_)
          · skip
            refine lv_iload_n hx hb dJ6_numberOfTrailingZeros_0f7a4_74 rfl (lv_at hl 1 rfl) ?_
            refine lv_iload_n hx hb dJ6_numberOfTrailingZeros_0f7a4_75 rfl (lv_at hl 0 rfl) ?_
            refine lv_iconst (v := 1) hx hb dJ6_numberOfTrailingZeros_0f7a4_76 rfl ?_
            refine lv_iushr hx hb dJ6_numberOfTrailingZeros_0f7a4_77 rfl ?_
            refine lv_topi (fun t24 et24 => ?_)
            refine lv_iadd hx hb dJ6_numberOfTrailingZeros_0f7a4_78 ?_
            refine lv_topi (fun t25 et25 => ?_)
            exact ret t25 () _ _ _ _ _ _ rfl (gsX_J6_numberOfTrailingZeros_0f7a4_1_q4 et1 et2 et3 c4 c5 c6 et21 c22 c23 et24 et25) hP hD hS dJ6_numberOfTrailingZeros_0f7a4_79 (Nat.le_refl _) (Nat.le_refl _)
          · skip
            refine lv_iinc (v := 11) (lv' := [(1, .int 11), (0, .int t21)]) hx hb dJ6_numberOfTrailingZeros_0f7a4_67 hl (k := 1) rfl (by decide) (by decide) rfl (fun ls hl => ?_)
            refine lv_iload_n hx hb dJ6_numberOfTrailingZeros_0f7a4_70 rfl (lv_at hl 1 rfl) ?_
            refine lv_iconst (v := 2) hx hb dJ6_numberOfTrailingZeros_0f7a4_71 rfl ?_
            refine lv_iushr hx hb dJ6_numberOfTrailingZeros_0f7a4_72 rfl ?_
            refine lv_topi (fun t26 et26 => ?_)
            refine lv_istore_n (lv' := [(0, .int t26), (1, .int 11)]) hx hb dJ6_numberOfTrailingZeros_0f7a4_73 rfl hl (Nat.le_of_ble_eq_true rfl) rfl (fun ls hl => ?_)
            refine lv_iload_n hx hb dJ6_numberOfTrailingZeros_0f7a4_74 rfl (lv_at hl 1 rfl) ?_
            refine lv_iload_n hx hb dJ6_numberOfTrailingZeros_0f7a4_75 rfl (lv_at hl 0 rfl) ?_
            refine lv_iconst (v := 1) hx hb dJ6_numberOfTrailingZeros_0f7a4_76 rfl ?_
            refine lv_iushr hx hb dJ6_numberOfTrailingZeros_0f7a4_77 rfl ?_
            refine lv_topi (fun t27 et27 => ?_)
            refine lv_iadd hx hb dJ6_numberOfTrailingZeros_0f7a4_78 ?_
            refine lv_topi (fun t28 et28 => ?_)
            exact ret t28 () _ _ _ _ _ _ rfl (gsX_J6_numberOfTrailingZeros_0f7a4_1_q5 et1 et2 et3 c4 c5 c6 et21 c22 c23 et26 et27 et28) hP hD hS dJ6_numberOfTrailingZeros_0f7a4_79 (Nat.le_refl _) (Nat.le_refl _)
        · skip
          refine lv_iinc (v := 13) (lv' := [(1, .int 13), (0, .int t21)]) hx hb dJ6_numberOfTrailingZeros_0f7a4_55 hl (k := 1) rfl (by decide) (by decide) rfl (fun ls hl => ?_)
          refine lv_iload_n hx hb dJ6_numberOfTrailingZeros_0f7a4_58 rfl (lv_at hl 1 rfl) ?_
          refine lv_iconst (v := 4) hx hb dJ6_numberOfTrailingZeros_0f7a4_59 rfl ?_
          refine lv_iushr hx hb dJ6_numberOfTrailingZeros_0f7a4_60 rfl ?_
          refine lv_topi (fun t29 et29 => ?_)
          refine lv_istore_n (lv' := [(0, .int t29), (1, .int 13)]) hx hb dJ6_numberOfTrailingZeros_0f7a4_61 rfl hl (Nat.le_of_ble_eq_true rfl) rfl (fun ls hl => ?_)
          refine lv_iload_n hx hb dJ6_numberOfTrailingZeros_0f7a4_62 rfl (lv_at hl 0 rfl) ?_
          refine lv_iconst (v := 4) hx hb dJ6_numberOfTrailingZeros_0f7a4_63 rfl ?_
          refine lv_icmp_le (tgt := 74) hx hb dJ6_numberOfTrailingZeros_0f7a4_64 rfl (fun c30 => ?_) (fun c30 => ?_)
          · skip
            refine lv_iload_n hx hb dJ6_numberOfTrailingZeros_0f7a4_74 rfl (lv_at hl 1 rfl) ?_
            refine lv_iload_n hx hb dJ6_numberOfTrailingZeros_0f7a4_75 rfl (lv_at hl 0 rfl) ?_
            refine lv_iconst (v := 1) hx hb dJ6_numberOfTrailingZeros_0f7a4_76 rfl ?_
            refine lv_iushr hx hb dJ6_numberOfTrailingZeros_0f7a4_77 rfl ?_
            refine lv_topi (fun t31 et31 => ?_)
            refine lv_iadd hx hb dJ6_numberOfTrailingZeros_0f7a4_78 ?_
            refine lv_topi (fun t32 et32 => ?_)
            exact ret t32 () _ _ _ _ _ _ rfl (gsX_J6_numberOfTrailingZeros_0f7a4_1_q6 et1 et2 et3 c4 c5 c6 et21 c22 et29 c30 et31 et32) hP hD hS dJ6_numberOfTrailingZeros_0f7a4_79 (Nat.le_refl _) (Nat.le_refl _)
          · skip
            refine lv_iinc (v := 15) (lv' := [(1, .int 15), (0, .int t29)]) hx hb dJ6_numberOfTrailingZeros_0f7a4_67 hl (k := 1) rfl (by decide) (by decide) rfl (fun ls hl => ?_)
            refine lv_iload_n hx hb dJ6_numberOfTrailingZeros_0f7a4_70 rfl (lv_at hl 1 rfl) ?_
            refine lv_iconst (v := 2) hx hb dJ6_numberOfTrailingZeros_0f7a4_71 rfl ?_
            refine lv_iushr hx hb dJ6_numberOfTrailingZeros_0f7a4_72 rfl ?_
            refine lv_topi (fun t33 et33 => ?_)
            refine lv_istore_n (lv' := [(0, .int t33), (1, .int 15)]) hx hb dJ6_numberOfTrailingZeros_0f7a4_73 rfl hl (Nat.le_of_ble_eq_true rfl) rfl (fun ls hl => ?_)
            refine lv_iload_n hx hb dJ6_numberOfTrailingZeros_0f7a4_74 rfl (lv_at hl 1 rfl) ?_
            refine lv_iload_n hx hb dJ6_numberOfTrailingZeros_0f7a4_75 rfl (lv_at hl 0 rfl) ?_
            refine lv_iconst (v := 1) hx hb dJ6_numberOfTrailingZeros_0f7a4_76 rfl ?_
            refine lv_iushr hx hb dJ6_numberOfTrailingZeros_0f7a4_77 rfl ?_
            refine lv_topi (fun t34 et34 => ?_)
            refine lv_iadd hx hb dJ6_numberOfTrailingZeros_0f7a4_78 ?_
            refine lv_topi (fun t35 et35 => ?_)
            exact ret t35 () _ _ _ _ _ _ rfl (gsX_J6_numberOfTrailingZeros_0f7a4_1_q7 et1 et2 et3 c4 c5 c6 et21 c22 et29 c30 et33 et34 et35) hP hD hS dJ6_numberOfTrailingZeros_0f7a4_79 (Nat.le_refl _) (Nat.le_refl _)
    · skip
      refine lv_iinc (v := 17) (lv' := [(1, .int 17), (0, .int t3)]) hx hb dJ6_numberOfTrailingZeros_0f7a4_26 hl (k := 0) rfl (by decide) (by decide) rfl (fun ls hl => ?_)
      refine lv_iload_n hx hb dJ6_numberOfTrailingZeros_0f7a4_29 rfl (lv_at hl 1 rfl) ?_
      refine lv_bipush (v := 16) hx hb dJ6_numberOfTrailingZeros_0f7a4_30 rfl ?_
      refine lv_iushr hx hb dJ6_numberOfTrailingZeros_0f7a4_32 rfl ?_
      refine lv_topi (fun t36 et36 => ?_)
      refine lv_istore_n (lv' := [(0, .int t36), (1, .int 17)]) hx hb dJ6_numberOfTrailingZeros_0f7a4_33 rfl hl (Nat.le_of_ble_eq_true rfl) rfl (fun ls hl => ?_)
      refine lv_iload_n hx hb dJ6_numberOfTrailingZeros_0f7a4_34 rfl (lv_at hl 0 rfl) ?_
      refine lv_sipush (v := 256) hx hb dJ6_numberOfTrailingZeros_0f7a4_35 rfl ?_
      refine lv_icmp_le (tgt := 49) hx hb dJ6_numberOfTrailingZeros_0f7a4_38 rfl (fun c37 => ?_) (fun c37 => ?_)
      · skip
        refine lv_iload_n hx hb dJ6_numberOfTrailingZeros_0f7a4_49 rfl (lv_at hl 0 rfl) ?_
        refine lv_bipush (v := 16) hx hb dJ6_numberOfTrailingZeros_0f7a4_50 rfl ?_
        refine lv_icmp_le (tgt := 62) hx hb dJ6_numberOfTrailingZeros_0f7a4_52 rfl (fun c38 => ?_) (fun c38 => ?_)
        · skip
          refine lv_iload_n hx hb dJ6_numberOfTrailingZeros_0f7a4_62 rfl (lv_at hl 0 rfl) ?_
          refine lv_iconst (v := 4) hx hb dJ6_numberOfTrailingZeros_0f7a4_63 rfl ?_
          refine lv_icmp_le (tgt := 74) hx hb dJ6_numberOfTrailingZeros_0f7a4_64 rfl (fun c39 => ?_) (fun c39 => ?_)
          · skip
            refine lv_iload_n hx hb dJ6_numberOfTrailingZeros_0f7a4_74 rfl (lv_at hl 1 rfl) ?_
            refine lv_iload_n hx hb dJ6_numberOfTrailingZeros_0f7a4_75 rfl (lv_at hl 0 rfl) ?_
            refine lv_iconst (v := 1) hx hb dJ6_numberOfTrailingZeros_0f7a4_76 rfl ?_
            refine lv_iushr hx hb dJ6_numberOfTrailingZeros_0f7a4_77 rfl ?_
            refine lv_topi (fun t40 et40 => ?_)
            refine lv_iadd hx hb dJ6_numberOfTrailingZeros_0f7a4_78 ?_
            refine lv_topi (fun t41 et41 => ?_)
            exact ret t41 () _ _ _ _ _ _ rfl (gsX_J6_numberOfTrailingZeros_0f7a4_1_q8 et1 et2 et3 c4 c5 et36 c37 c38 c39 et40 et41) hP hD hS dJ6_numberOfTrailingZeros_0f7a4_79 (Nat.le_refl _) (Nat.le_refl _)
          · skip
            refine lv_iinc (v := 19) (lv' := [(1, .int 19), (0, .int t36)]) hx hb dJ6_numberOfTrailingZeros_0f7a4_67 hl (k := 1) rfl (by decide) (by decide) rfl (fun ls hl => ?_)
            refine lv_iload_n hx hb dJ6_numberOfTrailingZeros_0f7a4_70 rfl (lv_at hl 1 rfl) ?_
            refine lv_iconst (v := 2) hx hb dJ6_numberOfTrailingZeros_0f7a4_71 rfl ?_
            refine lv_iushr hx hb dJ6_numberOfTrailingZeros_0f7a4_72 rfl ?_
            refine lv_topi (fun t42 et42 => ?_)
            refine lv_istore_n (lv' := [(0, .int t42), (1, .int 19)]) hx hb dJ6_numberOfTrailingZeros_0f7a4_73 rfl hl (Nat.le_of_ble_eq_true rfl) rfl (fun ls hl => ?_)
            refine lv_iload_n hx hb dJ6_numberOfTrailingZeros_0f7a4_74 rfl (lv_at hl 1 rfl) ?_
            refine lv_iload_n hx hb dJ6_numberOfTrailingZeros_0f7a4_75 rfl (lv_at hl 0 rfl) ?_
            refine lv_iconst (v := 1) hx hb dJ6_numberOfTrailingZeros_0f7a4_76 rfl ?_
            refine lv_iushr hx hb dJ6_numberOfTrailingZeros_0f7a4_77 rfl ?_
            refine lv_topi (fun t43 et43 => ?_)
            refine lv_iadd hx hb dJ6_numberOfTrailingZeros_0f7a4_78 ?_
            refine lv_topi (fun t44 et44 => ?_)
            exact ret t44 () _ _ _ _ _ _ rfl (gsX_J6_numberOfTrailingZeros_0f7a4_1_q9 et1 et2 et3 c4 c5 et36 c37 c38 c39 et42 et43 et44) hP hD hS dJ6_numberOfTrailingZeros_0f7a4_79 (Nat.le_refl _) (Nat.le_refl _)
        · skip
          refine lv_iinc (v := 21) (lv' := [(1, .int 21), (0, .int t36)]) hx hb dJ6_numberOfTrailingZeros_0f7a4_55 hl (k := 1) rfl (by decide) (by decide) rfl (fun ls hl => ?_)
          refine lv_iload_n hx hb dJ6_numberOfTrailingZeros_0f7a4_58 rfl (lv_at hl 1 rfl) ?_
          refine lv_iconst (v := 4) hx hb dJ6_numberOfTrailingZeros_0f7a4_59 rfl ?_
          refine lv_iushr hx hb dJ6_numberOfTrailingZeros_0f7a4_60 rfl ?_
          refine lv_topi (fun t45 et45 => ?_)
          refine lv_istore_n (lv' := [(0, .int t45), (1, .int 21)]) hx hb dJ6_numberOfTrailingZeros_0f7a4_61 rfl hl (Nat.le_of_ble_eq_true rfl) rfl (fun ls hl => ?_)
          refine lv_iload_n hx hb dJ6_numberOfTrailingZeros_0f7a4_62 rfl (lv_at hl 0 rfl) ?_
          refine lv_iconst (v := 4) hx hb dJ6_numberOfTrailingZeros_0f7a4_63 rfl ?_
          refine lv_icmp_le (tgt := 74) hx hb dJ6_numberOfTrailingZeros_0f7a4_64 rfl (fun c46 => ?_) (fun c46 => ?_)
          · skip
            refine lv_iload_n hx hb dJ6_numberOfTrailingZeros_0f7a4_74 rfl (lv_at hl 1 rfl) ?_
            refine lv_iload_n hx hb dJ6_numberOfTrailingZeros_0f7a4_75 rfl (lv_at hl 0 rfl) ?_
            refine lv_iconst (v := 1) hx hb dJ6_numberOfTrailingZeros_0f7a4_76 rfl ?_
            refine lv_iushr hx hb dJ6_numberOfTrailingZeros_0f7a4_77 rfl ?_
            refine lv_topi (fun t47 et47 => ?_)
            refine lv_iadd hx hb dJ6_numberOfTrailingZeros_0f7a4_78 ?_
            refine lv_topi (fun t48 et48 => ?_)
            exact ret t48 () _ _ _ _ _ _ rfl (gsX_J6_numberOfTrailingZeros_0f7a4_1_q10 et1 et2 et3 c4 c5 et36 c37 c38 et45 c46 et47 et48) hP hD hS dJ6_numberOfTrailingZeros_0f7a4_79 (Nat.le_refl _) (Nat.le_refl _)
          · skip
            refine lv_iinc (v := 23) (lv' := [(1, .int 23), (0, .int t45)]) hx hb dJ6_numberOfTrailingZeros_0f7a4_67 hl (k := 1) rfl (by decide) (by decide) rfl (fun ls hl => ?_)
            refine lv_iload_n hx hb dJ6_numberOfTrailingZeros_0f7a4_70 rfl (lv_at hl 1 rfl) ?_
            refine lv_iconst (v := 2) hx hb dJ6_numberOfTrailingZeros_0f7a4_71 rfl ?_
            refine lv_iushr hx hb dJ6_numberOfTrailingZeros_0f7a4_72 rfl ?_
            refine lv_topi (fun t49 et49 => ?_)
            refine lv_istore_n (lv' := [(0, .int t49), (1, .int 23)]) hx hb dJ6_numberOfTrailingZeros_0f7a4_73 rfl hl (Nat.le_of_ble_eq_true rfl) rfl (fun ls hl => ?_)
            refine lv_iload_n hx hb dJ6_numberOfTrailingZeros_0f7a4_74 rfl (lv_at hl 1 rfl) ?_
            refine lv_iload_n hx hb dJ6_numberOfTrailingZeros_0f7a4_75 rfl (lv_at hl 0 rfl) ?_
            refine lv_iconst (v := 1) hx hb dJ6_numberOfTrailingZeros_0f7a4_76 rfl ?_
            refine lv_iushr hx hb dJ6_numberOfTrailingZeros_0f7a4_77 rfl ?_
            refine lv_topi (fun t50 et50 => ?_)
            refine lv_iadd hx hb dJ6_numberOfTrailingZeros_0f7a4_78 ?_
            refine lv_topi (fun t51 et51 => ?_)
            exact ret t51 () _ _ _ _ _ _ rfl (gsX_J6_numberOfTrailingZeros_0f7a4_1_q11 et1 et2 et3 c4 c5 et36 c37 c38 et45 c46 et49 et50 et51) hP hD hS dJ6_numberOfTrailingZeros_0f7a4_79 (Nat.le_refl _) (Nat.le_refl _)
      · skip
        refine lv_iinc (v := 25) (lv' := [(1, .int 25), (0, .int t36)]) hx hb dJ6_numberOfTrailingZeros_0f7a4_41 hl (k := 1) rfl (by decide) (by decide) rfl (fun ls hl => ?_)
        refine lv_iload_n hx hb dJ6_numberOfTrailingZeros_0f7a4_44 rfl (lv_at hl 1 rfl) ?_
        refine lv_bipush (v := 8) hx hb dJ6_numberOfTrailingZeros_0f7a4_45 rfl ?_
        refine lv_iushr hx hb dJ6_numberOfTrailingZeros_0f7a4_47 rfl ?_
        refine lv_topi (fun t52 et52 => ?_)
        refine lv_istore_n (lv' := [(0, .int t52), (1, .int 25)]) hx hb dJ6_numberOfTrailingZeros_0f7a4_48 rfl hl (Nat.le_of_ble_eq_true rfl) rfl (fun ls hl => ?_)
        refine lv_iload_n hx hb dJ6_numberOfTrailingZeros_0f7a4_49 rfl (lv_at hl 0 rfl) ?_
        refine lv_bipush (v := 16) hx hb dJ6_numberOfTrailingZeros_0f7a4_50 rfl ?_
        refine lv_icmp_le (tgt := 62) hx hb dJ6_numberOfTrailingZeros_0f7a4_52 rfl (fun c53 => ?_) (fun c53 => ?_)
        · skip
          refine lv_iload_n hx hb dJ6_numberOfTrailingZeros_0f7a4_62 rfl (lv_at hl 0 rfl) ?_
          refine lv_iconst (v := 4) hx hb dJ6_numberOfTrailingZeros_0f7a4_63 rfl ?_
          refine lv_icmp_le (tgt := 74) hx hb dJ6_numberOfTrailingZeros_0f7a4_64 rfl (fun c54 => ?_) (fun c54 => ?_)
          · skip
            refine lv_iload_n hx hb dJ6_numberOfTrailingZeros_0f7a4_74 rfl (lv_at hl 1 rfl) ?_
            refine lv_iload_n hx hb dJ6_numberOfTrailingZeros_0f7a4_75 rfl (lv_at hl 0 rfl) ?_
            refine lv_iconst (v := 1) hx hb dJ6_numberOfTrailingZeros_0f7a4_76 rfl ?_
            refine lv_iushr hx hb dJ6_numberOfTrailingZeros_0f7a4_77 rfl ?_
            refine lv_topi (fun t55 et55 => ?_)
            refine lv_iadd hx hb dJ6_numberOfTrailingZeros_0f7a4_78 ?_
            refine lv_topi (fun t56 et56 => ?_)
            exact ret t56 () _ _ _ _ _ _ rfl (gsX_J6_numberOfTrailingZeros_0f7a4_1_q12 et1 et2 et3 c4 c5 et36 c37 et52 c53 c54 et55 et56) hP hD hS dJ6_numberOfTrailingZeros_0f7a4_79 (Nat.le_refl _) (Nat.le_refl _)
          · skip
            refine lv_iinc (v := 27) (lv' := [(1, .int 27), (0, .int t52)]) hx hb dJ6_numberOfTrailingZeros_0f7a4_67 hl (k := 1) rfl (by decide) (by decide) rfl (fun ls hl => ?_)
            refine lv_iload_n hx hb dJ6_numberOfTrailingZeros_0f7a4_70 rfl (lv_at hl 1 rfl) ?_
            refine lv_iconst (v := 2) hx hb dJ6_numberOfTrailingZeros_0f7a4_71 rfl ?_
            refine lv_iushr hx hb dJ6_numberOfTrailingZeros_0f7a4_72 rfl ?_
            refine lv_topi (fun t57 et57 => ?_)
            refine lv_istore_n (lv' := [(0, .int t57), (1, .int 27)]) hx hb dJ6_numberOfTrailingZeros_0f7a4_73 rfl hl (Nat.le_of_ble_eq_true rfl) rfl (fun ls hl => ?_)
            refine lv_iload_n hx hb dJ6_numberOfTrailingZeros_0f7a4_74 rfl (lv_at hl 1 rfl) ?_
            refine lv_iload_n hx hb dJ6_numberOfTrailingZeros_0f7a4_75 rfl (lv_at hl 0 rfl) ?_
            refine lv_iconst (v := 1) hx hb dJ6_numberOfTrailingZeros_0f7a4_76 rfl ?_
            refine lv_iushr hx hb dJ6_numberOfTrailingZeros_0f7a4_77 rfl ?_
            refine lv_topi (fun t58 et58 => ?_)
            refine lv_iadd hx hb dJ6_numberOfTrailingZeros_0f7a4_78 ?_
            refine lv_topi (fun t59 et59 => ?_)
            exact ret t59 () _ _ _ _ _ _ rfl (gsX_J6_numberOfTrailingZeros_0f7a4_1_q13 et1 et2 et3 c4 c5 et36 c37 et52 c53 c54 et57 et58 et59) hP hD hS dJ6_numberOfTrailingZeros_0f7a4_79 (Nat.le_refl _) (Nat.le_refl _)
        · skip
          refine lv_iinc (v := 29) (lv' := [(1, .int 29), (0, .int t52)]) hx hb dJ6_numberOfTrailingZeros_0f7a4_55 hl (k := 1) rfl (by decide) (by decide) rfl (fun ls hl => ?_)
          refine lv_iload_n hx hb dJ6_numberOfTrailingZeros_0f7a4_58 rfl (lv_at hl 1 rfl) ?_
          refine lv_iconst (v := 4) hx hb dJ6_numberOfTrailingZeros_0f7a4_59 rfl ?_
          refine lv_iushr hx hb dJ6_numberOfTrailingZeros_0f7a4_60 rfl ?_
          refine lv_topi (fun t60 et60 => ?_)
          refine lv_istore_n (lv' := [(0, .int t60), (1, .int 29)]) hx hb dJ6_numberOfTrailingZeros_0f7a4_61 rfl hl (Nat.le_of_ble_eq_true rfl) rfl (fun ls hl => ?_)
          refine lv_iload_n hx hb dJ6_numberOfTrailingZeros_0f7a4_62 rfl (lv_at hl 0 rfl) ?_
          refine lv_iconst (v := 4) hx hb dJ6_numberOfTrailingZeros_0f7a4_63 rfl ?_
          refine lv_icmp_le (tgt := 74) hx hb dJ6_numberOfTrailingZeros_0f7a4_64 rfl (fun c61 => ?_) (fun c61 => ?_)
          · skip
            refine lv_iload_n hx hb dJ6_numberOfTrailingZeros_0f7a4_74 rfl (lv_at hl 1 rfl) ?_
            refine lv_iload_n hx hb dJ6_numberOfTrailingZeros_0f7a4_75 rfl (lv_at hl 0 rfl) ?_
            refine lv_iconst (v := 1) hx hb dJ6_numberOfTrailingZeros_0f7a4_76 rfl ?_
            refine lv_iushr hx hb dJ6_numberOfTrailingZeros_0f7a4_77 rfl ?_
            refine lv_topi (fun t62 et62 => ?_)
            refine lv_iadd hx hb dJ6_numberOfTrailingZeros_0f7a4_78 ?_
            refine lv_topi (fun t63 et63 => ?_)
            exact ret t63 () _ _ _ _ _ _ rfl (gsX_J6_numberOfTrailingZeros_0f7a4_1_q14 et1 et2 et3 c4 c5 et36 c37 et52 c53 et60 c61 et62 et63) hP hD hS dJ6_numberOfTrailingZeros_0f7a4_79 (Nat.le_refl _) (Nat.le_refl _)
          · skip
            refine lv_iinc (v := 31) (lv' := [(1, .int 31), (0, .int t60)]) hx hb dJ6_numberOfTrailingZeros_0f7a4_67 hl (k := 1) rfl (by decide) (by decide) rfl (fun ls hl => ?_)
            refine lv_iload_n hx hb dJ6_numberOfTrailingZeros_0f7a4_70 rfl (lv_at hl 1 rfl) ?_
            refine lv_iconst (v := 2) hx hb dJ6_numberOfTrailingZeros_0f7a4_71 rfl ?_
            refine lv_iushr hx hb dJ6_numberOfTrailingZeros_0f7a4_72 rfl ?_
            refine lv_topi (fun t64 et64 => ?_)
            refine lv_istore_n (lv' := [(0, .int t64), (1, .int 31)]) hx hb dJ6_numberOfTrailingZeros_0f7a4_73 rfl hl (Nat.le_of_ble_eq_true rfl) rfl (fun ls hl => ?_)
            refine lv_iload_n hx hb dJ6_numberOfTrailingZeros_0f7a4_74 rfl (lv_at hl 1 rfl) ?_
            refine lv_iload_n hx hb dJ6_numberOfTrailingZeros_0f7a4_75 rfl (lv_at hl 0 rfl) ?_
            refine lv_iconst (v := 1) hx hb dJ6_numberOfTrailingZeros_0f7a4_76 rfl ?_
            refine lv_iushr hx hb dJ6_numberOfTrailingZeros_0f7a4_77 rfl ?_
            refine lv_topi (fun t65 et65 => ?_)
            refine lv_iadd hx hb dJ6_numberOfTrailingZeros_0f7a4_78 ?_
            refine lv_topi (fun t66 et66 => ?_)
            exact ret t66 () _ _ _ _ _ _ rfl (gsX_J6_numberOfTrailingZeros_0f7a4_1_q15 et1 et2 et3 c4 c5 et36 c37 et52 c53 et60 c61 et64 et65 et66) hP hD hS dJ6_numberOfTrailingZeros_0f7a4_79 (Nat.le_refl _) (Nat.le_refl _)
  · skip
    refine lv_iload_n hx hb dJ6_numberOfTrailingZeros_0f7a4_12 rfl (lv_at hl 0 rfl) ?_
    refine lv_bipush (v := 32) hx hb dJ6_numberOfTrailingZeros_0f7a4_13 rfl ?_
    refine lv_iand hx hb dJ6_numberOfTrailingZeros_0f7a4_15 ?_
    refine lv_topi (fun t67 et67 => ?_)
    exact ret t67 () _ _ _ _ _ _ rfl (gsX_J6_numberOfTrailingZeros_0f7a4_1_q16 et1 et2 et3 c4 et67) hP hD hS dJ6_numberOfTrailingZeros_0f7a4_16 (Nat.le_refl _) (Nat.le_refl _)
set_option maxHeartbeats 4000000 in
set_option maxRecDepth 100000 in
theorem sX_X10_sure_1 (NF : Nat) (l : Launch) (dC : Nat → ClassId) (dI : Nat → Nat → Nat) (cy : Nat → ClassId) (x0 : Nat) (x : Nat → Nat) (p1 : Int32) (p2 : Int32) (v : Nat → Int32) (f : Nat → Nat → Int32) (hIv : XI v)  : ctI l (dC, dI) cy yX10_sure cX10_sure 4 .int 6 183 0 0 ((Nat → Int32) × (Nat → Nat → Int32)) [.ref x0, .int p1, .int p2] (XW cy x0 x v f) (fun r u => gsX_X10_sure_1 NF p1 p2 v f = (r, u) ∧ KV [] u.1 v ∧ KF [13, 14, 27] u.2 f ∧ XI u.1 ∧ u.1 0 = v 0 ∧ u.1 1 = v 1 ∧ u.1 7 = v 7 ∧ u.1 8 = v 8 ∧ u.1 9 = v 9 ∧ u.1 10 = v 10 ∧ u.1 31 = v 31 ∧ u.1 32 = v 32) (fun u => XW cy x0 x u.1 u.2) := by
  refine ctI_of (by decide) (Nat.le_of_ble_eq_true rfl) (fun p e s m below meth c A ls Q hx hb hml hts hown hE hP hD hA hl ret => ?_)
  have hM_v : KV [] v v := fun _ _ => rfl
  have hA_f : KF [13, 14, 27] f f := fun _ _ => rfl
  have hown : s.vm.findClass RX10 = some m.cls := hown
  have hS : va_S A s.heap s.heap [] := va_S.rf
  have hl : lv_has ls 4 [(0, .ref x0), (1, .int p1), (2, .int p2)] := hl
  refine lv_aload_n hx hb dX10_sure_0 rfl (lv_at hl 0 rfl) ?_
  refine va_get (D := (dC, dI)) (ci := 10) (v := .ref (x 35)) (C := RX10) (T := TX10) (N := 10) hx hb hts inB_10 hown hE.1 hP 0 rfl rfl 8 (Nat.le_of_ble_eq_true rfl) (hts _ k_499) (fun _ h9 => h9) rfl dX10_sure_1 ?_
  refine lv_iload_n hx hb dX10_sure_4 rfl (lv_at hl 2 rfl) ?_
  refine cbVi (n := 1) (rest := []) hx hb hml hown hts hE hP hD hS hA (sX_X8_growthsAt_1 NF l dC dI cy x0 x p2 v f hIv ) k_1247 k_1248 k_1249 k_112 k_1250 hd_yX8_growthsAt ⟨Nat.le_of_ble_eq_true rfl, Nat.le_of_ble_eq_true rfl⟩ 36 8 rfl rfl (rfl) hl.1 rfl (Nat.le_of_ble_eq_true rfl) dX10_sure_5 (fun r1 u H locs hw hP hD hS => ?_)
  obtain ⟨hG2, hw⟩ := hw
  obtain ⟨v3, f4⟩ := u
  obtain ⟨kV_v3, kF_f4, hIv3, hk0_v3, hk1_v3, hk7_v3, hk8_v3, hk9_v3, hk10_v3, hk31_v3, hk32_v3⟩ := hw
  have hM_v3 : KV [] v3 v := KV.tr kV_v3 hM_v rfl
  have hA_f4 : KF [13, 14, 27] f4 f := KF.tr kF_f4 hA_f rfl
  have hP : va_P (dC, dI) vwCl (XW cy x0 x v3 f4) H := hP
  have hD : va_D A (XW cy x0 x v3 f4) := hD
  refine lv_istore_n (lv' := [(3, .int r1), (0, .ref x0), (1, .int p1), (2, .int p2)]) hx hb dX10_sure_8 rfl hl (Nat.le_of_ble_eq_true rfl) rfl (fun ls hl => ?_)
  refine lv_iload_n hx hb dX10_sure_9 rfl (lv_at hl 0 rfl) ?_
  refine lv_if_eq (tgt := 22) hx hb dX10_sure_10 rfl (fun c5 => ?_) (fun c5 => ?_)
  · skip
    refine lv_iconst (v := (-1)) hx hb dX10_sure_22 rfl ?_
    exact ret (-1) (v3, f4) _ _ _ _ _ _ rfl ⟨(gsX_X10_sure_1_q0 hG2 c5), hM_v3, hA_f4, hIv3, hk0_v3, hk1_v3, hk7_v3, hk8_v3, hk9_v3, hk10_v3, hk31_v3, hk32_v3⟩ hP hD hS dX10_sure_23 (Nat.le_refl _) (Nat.le_refl _)
  · skip
    refine lv_iload_n hx hb dX10_sure_13 rfl (lv_at hl 2 rfl) ?_
    refine lv_if_lt (tgt := 22) hx hb dX10_sure_14 rfl (fun c6 => ?_) (fun c6 => ?_)
    · skip
      refine lv_iconst (v := (-1)) hx hb dX10_sure_22 rfl ?_
      exact ret (-1) (v3, f4) _ _ _ _ _ _ rfl ⟨(gsX_X10_sure_1_q1 hG2 c5 c6), hM_v3, hA_f4, hIv3, hk0_v3, hk1_v3, hk7_v3, hk8_v3, hk9_v3, hk10_v3, hk31_v3, hk32_v3⟩ hP hD hS dX10_sure_23 (Nat.le_refl _) (Nat.le_refl _)
    · skip
      refine lv_iload_n hx hb dX10_sure_17 rfl (lv_at hl 2 rfl) ?_
      refine lv_iconst (v := 1) hx hb dX10_sure_18 rfl ?_
      refine lv_icmp_le (tgt := 24) hx hb dX10_sure_19 rfl (fun c7 => ?_) (fun c7 => ?_)
      · skip
        refine lv_iload_n hx hb dX10_sure_24 rfl (lv_at hl 2 rfl) ?_
        refine lv_if_ne (tgt := 35) hx hb dX10_sure_25 rfl (fun c8 => ?_) (fun c8 => ?_)
        · skip
          refine lv_bipush (v := 31) hx hb dX10_sure_35 rfl ?_
          refine lv_iload_n hx hb dX10_sure_37 rfl (lv_at hl 0 rfl) ?_
          refine cbSi (n := 1) (rest := [.int 31]) hx hb hml hown hts hE hP hD hS hA (sX_J6_numberOfLeadingZeros_0f7a4_1 NF l dC dI cy x0 x r1 v3 f4 hIv3 ) k_1272 k_1273 k_121 k_1274 he_yJ6_numberOfLeadingZeros_0f7a4 ⟨Nat.le_of_ble_eq_true rfl, Nat.le_of_ble_eq_true rfl⟩ (rfl) hl.1 rfl (Nat.le_of_ble_eq_true rfl) dX10_sure_38 (fun r9 u H locs hw hP hD hS => ?_)
          have hG10 := hw
          refine lv_isub hx hb dX10_sure_41 ?_
          refine lv_topi (fun t11 et11 => ?_)
          exact ret t11 (v3, f4) _ _ _ _ _ _ rfl ⟨(gsX_X10_sure_1_q2 hG2 c5 c6 c7 c8 hG10.symm et11), hM_v3, hA_f4, hIv3, hk0_v3, hk1_v3, hk7_v3, hk8_v3, hk9_v3, hk10_v3, hk31_v3, hk32_v3⟩ hP hD hS dX10_sure_42 (Nat.le_refl _) (Nat.le_refl _)
        · skip
          refine lv_iload_n hx hb dX10_sure_28 rfl (lv_at hl 0 rfl) ?_
          refine cbSi (n := 1) (rest := []) hx hb hml hown hts hE hP hD hS hA (sX_J6_numberOfTrailingZeros_0f7a4_1 NF l dC dI cy x0 x r1 v3 f4 hIv3 ) k_1268 k_1269 k_121 k_1270 he_yJ6_numberOfTrailingZeros_0f7a4 ⟨Nat.le_of_ble_eq_true rfl, Nat.le_of_ble_eq_true rfl⟩ (rfl) hl.1 rfl (Nat.le_of_ble_eq_true rfl) dX10_sure_29 (fun r12 u H locs hw hP hD hS => ?_)
          have hG13 := hw
          refine lv_goto (tgt := 42) hx hb dX10_sure_32 rfl ?_
          exact ret r12 (v3, f4) _ _ _ _ _ _ rfl ⟨(gsX_X10_sure_1_q3 hG2 c5 c6 c7 c8 hG13.symm), hM_v3, hA_f4, hIv3, hk0_v3, hk1_v3, hk7_v3, hk8_v3, hk9_v3, hk10_v3, hk31_v3, hk32_v3⟩ hP hD hS dX10_sure_42 (Nat.le_refl _) (Nat.le_refl _)
      · skip
        refine lv_iconst (v := (-1)) hx hb dX10_sure_22 rfl ?_
        exact ret (-1) (v3, f4) _ _ _ _ _ _ rfl ⟨(gsX_X10_sure_1_q4 hG2 c5 c6 c7), hM_v3, hA_f4, hIv3, hk0_v3, hk1_v3, hk7_v3, hk8_v3, hk9_v3, hk10_v3, hk31_v3, hk32_v3⟩ hP hD hS dX10_sure_23 (Nat.le_refl _) (Nat.le_refl _)
set_option maxHeartbeats 4000000 in
set_option maxRecDepth 100000 in
theorem sX_X8_leftAtMost_1 (NF : Nat) (l : Launch) (dC : Nat → ClassId) (dI : Nat → Nat → Nat) (cy : Nat → ClassId) (x0 : Nat) (x : Nat → Nat) (p1 : Int32) (p2 : Int32) (v : Nat → Int32) (f : Nat → Nat → Int32) (hIv : XI v)  : ctI l (dC, dI) cy yX8_leftAtMost cX8_leftAtMost 4 .int 5 158 0 0 ((Nat → Int32) × (Nat → Nat → Int32)) [.ref (x 35), .int p1, .int p2] (XW cy x0 x v f) (fun r u => gsX_X8_leftAtMost_1 NF p1 p2 v f = (r, u) ∧ KV [] u.1 v ∧ KF [13, 14, 27] u.2 f ∧ XI u.1 ∧ u.1 0 = v 0 ∧ u.1 1 = v 1 ∧ u.1 7 = v 7 ∧ u.1 8 = v 8 ∧ u.1 9 = v 9 ∧ u.1 10 = v 10 ∧ u.1 31 = v 31 ∧ u.1 32 = v 32) (fun u => XW cy x0 x u.1 u.2) := by
  refine ctI_of (by decide) (Nat.le_of_ble_eq_true rfl) (fun p e s m below meth c A ls Q hx hb hml hts hown hE hP hD hA hl ret => ?_)
  have hM_v : KV [] v v := fun _ _ => rfl
  have hA_f : KF [13, 14, 27] f f := fun _ _ => rfl
  have hown : s.vm.findClass RX8 = some m.cls := hown
  have hS : va_S A s.heap s.heap [] := va_S.rf
  have hl : lv_has ls 4 [(0, .ref (x 35)), (1, .int p1), (2, .int p2)] := hl
  refine lv_aload_n hx hb dX8_leftAtMost_0 rfl (lv_at hl 0 rfl) ?_
  refine lv_iload_n hx hb dX8_leftAtMost_1 rfl (lv_at hl 2 rfl) ?_
  refine cbVi (n := 1) (rest := []) hx hb hml hown hts hE hP hD hS hA (sX_X8_fittingBehind_1 NF l dC dI cy x0 x p2 v f hIv ) k_1252 k_1254 k_38 k_112 k_1255 hd_yX8_fittingBehind ⟨Nat.le_of_ble_eq_true rfl, Nat.le_of_ble_eq_true rfl⟩ 36 8 rfl rfl (rfl) hl.1 rfl (Nat.le_of_ble_eq_true rfl) dX8_leftAtMost_2 (fun r1 u H locs hw hP hD hS => ?_)
  obtain ⟨hG2, hw⟩ := hw
  obtain ⟨v3, f4⟩ := u
  obtain ⟨kV_v3, kF_f4, hIv3, hk0_v3, hk1_v3, hk7_v3, hk8_v3, hk9_v3, hk10_v3, hk31_v3, hk32_v3⟩ := hw
  have hM_v3 : KV [] v3 v := KV.tr kV_v3 hM_v rfl
  have hA_f4 : KF [13, 14, 27] f4 f := KF.tr kF_f4 hA_f rfl
  have hP : va_P (dC, dI) vwCl (XW cy x0 x v3 f4) H := hP
  have hD : va_D A (XW cy x0 x v3 f4) := hD
  have hq0_v3 : v3 0 = (v 0) := hk0_v3
  have hq1_v3 : v3 1 = (v 1) := hk1_v3
  have hq7_v3 : v3 7 = (v 7) := hk7_v3
  have hq8_v3 : v3 8 = (v 8) := hk8_v3
  have hq9_v3 : v3 9 = (v 9) := hk9_v3
  have hq10_v3 : v3 10 = (v 10) := hk10_v3
  have hq31_v3 : v3 31 = (v 31) := hk31_v3
  have hq32_v3 : v3 32 = (v 32) := hk32_v3
  refine lv_istore_n (lv' := [(3, .int r1), (0, .ref (x 35)), (1, .int p1), (2, .int p2)]) hx hb dX8_leftAtMost_5 rfl hl (Nat.le_of_ble_eq_true rfl) rfl (fun ls hl => ?_)
  refine lv_iload_n hx hb dX8_leftAtMost_6 rfl (lv_at hl 2 rfl) ?_
  refine lv_iload_n hx hb dX8_leftAtMost_7 rfl (lv_at hl 0 rfl) ?_
  refine lv_iand hx hb dX8_leftAtMost_8 ?_
  refine lv_topi (fun t5 et5 => ?_)
  refine cbSi (n := 1) (rest := []) hx hb hml hown hts hE hP hD hS hA (sX_J6_bitCount_0f7a4_1 NF l dC dI cy x0 x t5 v3 f4 hIv3 ) k_1287 k_1043 k_121 k_1044 he_yJ6_bitCount_0f7a4 ⟨Nat.le_of_ble_eq_true rfl, Nat.le_of_ble_eq_true rfl⟩ (rfl) hl.1 rfl (Nat.le_of_ble_eq_true rfl) dX8_leftAtMost_9 (fun r6 u H locs hw hP hD hS => ?_)
  have hG7 := hw
  refine lv_iload_n hx hb dX8_leftAtMost_12 rfl (lv_at hl 2 rfl) ?_
  refine lv_iload_n hx hb dX8_leftAtMost_13 rfl (lv_at hl 0 rfl) ?_
  refine lv_iconst (v := (-1)) hx hb dX8_leftAtMost_14 rfl ?_
  refine lv_ixor hx hb dX8_leftAtMost_15 ?_
  refine lv_topi (fun t8 et8 => ?_)
  refine lv_iand hx hb dX8_leftAtMost_16 ?_
  refine lv_topi (fun t9 et9 => ?_)
  refine cbSi (n := 1) (rest := [.int r6]) hx hb hml hown hts hE hP hD hS hA (sX_J6_bitCount_0f7a4_1 NF l dC dI cy x0 x t9 v3 f4 hIv3 ) k_1287 k_1043 k_121 k_1044 he_yJ6_bitCount_0f7a4 ⟨Nat.le_of_ble_eq_true rfl, Nat.le_of_ble_eq_true rfl⟩ (rfl) hl.1 rfl (Nat.le_of_ble_eq_true rfl) dX8_leftAtMost_17 (fun r10 u H locs hw hP hD hS => ?_)
  have hG11 := hw
  refine va_mmax hx hb (by rw [hml]; exact hl.1.symm) hown (hts _ k_1288) (hts _ k_640) (hts _ k_119) (hts _ k_641) (Nat.le_of_ble_eq_true rfl) (Nat.le_of_ble_eq_true rfl) (Nat.le_of_ble_eq_true rfl) (Nat.le_of_ble_eq_true rfl) dX8_leftAtMost_20 ?_
  refine lv_topi (fun t12 et12 => ?_)
  have zt12 : t12.toInt = max (r6.toInt) (r10.toInt) := by rw [et12]; exact mmax_i rfl rfl
  exact ret t12 (v3, f4) _ _ _ _ _ _ rfl ⟨(gsX_X8_leftAtMost_1_q0 hG2 et5 hG7.symm et8 et9 hG11.symm et12), hM_v3, hA_f4, hIv3, hk0_v3, hk1_v3, hk7_v3, hk8_v3, hk9_v3, hk10_v3, hk31_v3, hk32_v3⟩ hP hD hS dX8_leftAtMost_23 (Nat.le_refl _) (Nat.le_refl _)
set_option maxHeartbeats 4000000 in
set_option maxRecDepth 100000 in
theorem sX_X8_bestQuestion_1 (NF : Nat) (l : Launch) (dC : Nat → ClassId) (dI : Nat → Nat → Nat) (cy : Nat → ClassId) (x0 : Nat) (x : Nat → Nat) (p1 : Int32) (v : Nat → Int32) (f : Nat → Nat → Int32) (hIv : XI v)  : ctI l (dC, dI) cy yX8_bestQuestion cX8_bestQuestion 4 .int 6 181 0 0 ((Nat → Int32) × (Nat → Nat → Int32)) [.ref (x 35), .int p1] (XW cy x0 x v f) (fun r u => gsX_X8_bestQuestion_1 NF p1 v f = (r, u) ∧ KV [] u.1 v ∧ KF [13, 14, 27] u.2 f ∧ XI u.1 ∧ u.1 0 = v 0 ∧ u.1 1 = v 1 ∧ u.1 7 = v 7 ∧ u.1 8 = v 8 ∧ u.1 9 = v 9 ∧ u.1 10 = v 10 ∧ u.1 31 = v 31 ∧ u.1 32 = v 32) (fun u => XW cy x0 x u.1 u.2) := by
  refine ctI_of (by decide) (Nat.le_of_ble_eq_true rfl) (fun p e s m below meth c A ls Q hx hb hml hts hown hE hP hD hA hl ret => ?_)
  have hM_v : KV [] v v := fun _ _ => rfl
  have hA_f : KF [13, 14, 27] f f := fun _ _ => rfl
  have hown : s.vm.findClass RX8 = some m.cls := hown
  have hS : va_S A s.heap s.heap [] := va_S.rf
  have hl : lv_has ls 4 [(0, .ref (x 35)), (1, .int p1)] := hl
  refine lv_iconst (v := 0) hx hb dX8_bestQuestion_0 rfl ?_
  refine lv_istore_n (lv' := [(2, .int 0), (0, .ref (x 35)), (1, .int p1)]) hx hb dX8_bestQuestion_1 rfl hl (Nat.le_of_ble_eq_true rfl) rfl (fun ls hl => ?_)
  refine lv_iconst (v := 1) hx hb dX8_bestQuestion_2 rfl ?_
  refine lv_istore_n (lv' := [(3, .int 1), (2, .int 0), (0, .ref (x 35)), (1, .int p1)]) hx hb dX8_bestQuestion_3 rfl hl (Nat.le_of_ble_eq_true rfl) rfl (fun ls hl => ?_)
  have lp1 : ∀ (n1 : Nat) (l2_1 : Int32) (l3_1 : Int32) (v1 : Nat → Int32) (f1 : Nat → Nat → Int32), XI v1 → v1 0 = (v 0) → v1 1 = (v 1) → v1 7 = (v 7) → v1 8 = (v 8) → v1 9 = (v 9) → v1 10 = (v 10) → v1 31 = (v 31) → v1 32 = (v 32) → gsX_X8_bestQuestion_1_L1 NF p1 n1 l2_1 l3_1 v1 f1 = (gsX_X8_bestQuestion_1 NF p1 v f) → ((1 : Int) ≤ l3_1.toInt ∧ l3_1.toInt ≤ 2147483647) → KV [] v1 v → KF [13, 14, 27] f1 f → (2147483647 - l3_1.toInt).toNat < n1 → ∀ (H : Heap) (locs : List Loc) (ls : Array Slot), va_P (dC, dI) vwCl (XW cy x0 x v1 f1) H → va_D A (XW cy x0 x v1 f1) → va_S A s.heap H locs → lv_has ls 4 [(3, .int l3_1), (2, .int l2_1), (0, .ref (x 35)), (1, .int p1)] → W p l e { frames := 6, cells := 0, slots := 0, locals := 181 } s m ([.ref (x 35), .int p1] : List Value).toArray below meth c H locs 0 0 Q (F0 m 4 ls []) := by
    intro n1
    induction n1 with
    | zero => intro l2_1 l3_1 v1 f1 hIv1 hq0_v1 hq1_v1 hq7_v1 hq8_v1 hq9_v1 hq10_v1 hq31_v1 hq32_v1 hT1 hr3_1 hM_v1 hA_f1 hm; exact absurd hm (Nat.not_lt_zero _)
    | succ n1 ih1 =>
      intro l2_1 l3_1 v1 f1 hIv1 hq0_v1 hq1_v1 hq7_v1 hq8_v1 hq9_v1 hq10_v1 hq31_v1 hq32_v1 hT1 hr3_1 hM_v1 hA_f1 hm1 H locs ls hP hD hS hl
      refine lv_iload_n hx hb dX8_bestQuestion_4 rfl (lv_at hl 0 rfl) ?_
      refine lv_bipush (v := 20) hx hb dX8_bestQuestion_5 rfl ?_
      refine lv_icmp_gt (tgt := 33) hx hb dX8_bestQuestion_7 rfl (fun c2 => ?_) (fun c2 => ?_)
      · skip
        refine lv_iload_n hx hb dX8_bestQuestion_33 rfl (lv_at hl 1 rfl) ?_
        exact ret l2_1 (v1, f1) _ _ _ _ _ _ rfl ⟨(hT1.symm.trans (gsX_X8_bestQuestion_1_q0 c2)), hM_v1, hA_f1, hIv1, (show v1 0 = v 0 from hq0_v1), (show v1 1 = v 1 from hq1_v1), (show v1 7 = v 7 from hq7_v1), (show v1 8 = v 8 from hq8_v1), (show v1 9 = v 9 from hq9_v1), (show v1 10 = v 10 from hq10_v1), (show v1 31 = v 31 from hq31_v1), (show v1 32 = v 32 from hq32_v1)⟩ hP hD hS dX8_bestQuestion_34 (Nat.le_refl _) (Nat.le_refl _)
      · skip
        have zc2 : ¬ (20 < l3_1.toInt) := zLn tc_20 rfl c2
        refine lv_aload_n hx hb dX8_bestQuestion_10 rfl (lv_at hl 2 rfl) ?_
        refine lv_iload_n hx hb dX8_bestQuestion_11 rfl (lv_at hl 3 rfl) ?_
        refine lv_iload_n hx hb dX8_bestQuestion_12 rfl (lv_at hl 0 rfl) ?_
        refine cbVi (n := 2) (rest := []) hx hb hml hown hts hE hP hD hS hA (sX_X8_leftAtMost_1 NF l dC dI cy x0 x p1 l3_1 v1 f1 hIv1 ) k_1283 k_1284 k_1285 k_112 k_1286 hd_yX8_leftAtMost ⟨Nat.le_of_ble_eq_true rfl, Nat.le_of_ble_eq_true rfl⟩ 36 8 rfl rfl (rfl) hl.1 rfl (Nat.le_of_ble_eq_true rfl) dX8_bestQuestion_13 (fun r3 u H locs hw hP hD hS => ?_)
        obtain ⟨hG4, hw⟩ := hw
        obtain ⟨v5, f6⟩ := u
        obtain ⟨kV_v5, kF_f6, hIv5, hk0_v5, hk1_v5, hk7_v5, hk8_v5, hk9_v5, hk10_v5, hk31_v5, hk32_v5⟩ := hw
        have hM_v5 : KV [] v5 v := KV.tr kV_v5 hM_v1 rfl
        have hA_f6 : KF [13, 14, 27] f6 f := KF.tr kF_f6 hA_f1 rfl
        have hP : va_P (dC, dI) vwCl (XW cy x0 x v5 f6) H := hP
        have hD : va_D A (XW cy x0 x v5 f6) := hD
        have hq0_v5 : v5 0 = (v 0) := hk0_v5.trans hq0_v1
        have hq1_v5 : v5 1 = (v 1) := hk1_v5.trans hq1_v1
        have hq7_v5 : v5 7 = (v 7) := hk7_v5.trans hq7_v1
        have hq8_v5 : v5 8 = (v 8) := hk8_v5.trans hq8_v1
        have hq9_v5 : v5 9 = (v 9) := hk9_v5.trans hq9_v1
        have hq10_v5 : v5 10 = (v 10) := hk10_v5.trans hq10_v1
        have hq31_v5 : v5 31 = (v 31) := hk31_v5.trans hq31_v1
        have hq32_v5 : v5 32 = (v 32) := hk32_v5.trans hq32_v1
        refine lv_aload_n hx hb dX8_bestQuestion_16 rfl (lv_at hl 2 rfl) ?_
        refine lv_iload_n hx hb dX8_bestQuestion_17 rfl (lv_at hl 3 rfl) ?_
        refine lv_iload_n hx hb dX8_bestQuestion_18 rfl (lv_at hl 1 rfl) ?_
        refine cbVi (n := 2) (rest := [.int r3]) hx hb hml hown hts hE hP hD hS hA (sX_X8_leftAtMost_1 NF l dC dI cy x0 x p1 l2_1 v5 f6 hIv5 ) k_1283 k_1284 k_1285 k_112 k_1286 hd_yX8_leftAtMost ⟨Nat.le_of_ble_eq_true rfl, Nat.le_of_ble_eq_true rfl⟩ 36 8 rfl rfl (rfl) hl.1 rfl (Nat.le_of_ble_eq_true rfl) dX8_bestQuestion_19 (fun r7 u H locs hw hP hD hS => ?_)
        obtain ⟨hG8, hw⟩ := hw
        obtain ⟨v9, f10⟩ := u
        obtain ⟨kV_v9, kF_f10, hIv9, hk0_v9, hk1_v9, hk7_v9, hk8_v9, hk9_v9, hk10_v9, hk31_v9, hk32_v9⟩ := hw
        have hM_v9 : KV [] v9 v := KV.tr kV_v9 hM_v5 rfl
        have hA_f10 : KF [13, 14, 27] f10 f := KF.tr kF_f10 hA_f6 rfl
        have hP : va_P (dC, dI) vwCl (XW cy x0 x v9 f10) H := hP
        have hD : va_D A (XW cy x0 x v9 f10) := hD
        have hq0_v9 : v9 0 = (v 0) := hk0_v9.trans hq0_v5
        have hq1_v9 : v9 1 = (v 1) := hk1_v9.trans hq1_v5
        have hq7_v9 : v9 7 = (v 7) := hk7_v9.trans hq7_v5
        have hq8_v9 : v9 8 = (v 8) := hk8_v9.trans hq8_v5
        have hq9_v9 : v9 9 = (v 9) := hk9_v9.trans hq9_v5
        have hq10_v9 : v9 10 = (v 10) := hk10_v9.trans hq10_v5
        have hq31_v9 : v9 31 = (v 31) := hk31_v9.trans hq31_v5
        have hq32_v9 : v9 32 = (v 32) := hk32_v9.trans hq32_v5
        refine lv_icmp_ge (tgt := 27) hx hb dX8_bestQuestion_22 rfl (fun c11 => ?_) (fun c11 => ?_)
        · skip
          obtain ⟨t14, et14⟩ : ∃ y : Int32, y = l3_1 + 1 := ⟨_, rfl⟩
          have zt14 : t14.toInt = l3_1.toInt + 1 := (congrArg Int32.toInt et14).trans (add_i rfl tc_1 (om_185 hr3_1) (om_186 zc2))
          refine lv_iinc (v := t14) (lv' := [(3, .int t14), (2, .int l2_1), (0, .ref (x 35)), (1, .int p1)]) hx hb dX8_bestQuestion_27 hl (k := 0) rfl et14.symm (Nat.le_of_ble_eq_true rfl) rfl (fun ls hl => ?_)
          refine lv_goto (tgt := 4) hx hb dX8_bestQuestion_30 rfl ?_
          have rg16 := fb_rng t14
          exact ih1 l2_1 t14 v9 f10 hIv9 hq0_v9 hq1_v9 hq7_v9 hq8_v9 hq9_v9 hq10_v9 hq31_v9 hq32_v9 ((gsX_X8_bestQuestion_1_q1 c2 hG4 hG8 c11 et14).symm.trans hT1) ⟨show (1 : Int) ≤ t14.toInt from om_187 hr3_1 zt14, show t14.toInt ≤ (2147483647 : Int) from om_44 rg16⟩ hM_v9 hA_f10 (show (2147483647 - t14.toInt).toNat < n1 from om_33 hm1 zt14 rg16) _ _ _ hP hD hS (lv_sub hl [0, 1, 2, 3] rfl)
        · skip
          refine lv_iload_n hx hb dX8_bestQuestion_25 rfl (lv_at hl 0 rfl) ?_
          refine lv_istore_n (lv' := [(2, .int l3_1), (3, .int l3_1), (0, .ref (x 35)), (1, .int p1)]) hx hb dX8_bestQuestion_26 rfl hl (Nat.le_of_ble_eq_true rfl) rfl (fun ls hl => ?_)
          obtain ⟨t19, et19⟩ : ∃ y : Int32, y = l3_1 + 1 := ⟨_, rfl⟩
          have zt19 : t19.toInt = l3_1.toInt + 1 := (congrArg Int32.toInt et19).trans (add_i rfl tc_1 (om_185 hr3_1) (om_186 zc2))
          refine lv_iinc (v := t19) (lv' := [(3, .int t19), (2, .int l3_1), (0, .ref (x 35)), (1, .int p1)]) hx hb dX8_bestQuestion_27 hl (k := 1) rfl et19.symm (Nat.le_of_ble_eq_true rfl) rfl (fun ls hl => ?_)
          refine lv_goto (tgt := 4) hx hb dX8_bestQuestion_30 rfl ?_
          have rg21 := fb_rng t19
          exact ih1 l3_1 t19 v9 f10 hIv9 hq0_v9 hq1_v9 hq7_v9 hq8_v9 hq9_v9 hq10_v9 hq31_v9 hq32_v9 ((gsX_X8_bestQuestion_1_q2 c2 hG4 hG8 c11 et19).symm.trans hT1) ⟨show (1 : Int) ≤ t19.toInt from om_187 hr3_1 zt19, show t19.toInt ≤ (2147483647 : Int) from om_44 rg21⟩ hM_v9 hA_f10 (show (2147483647 - t19.toInt).toNat < n1 from om_33 hm1 zt19 rg21) _ _ _ hP hD hS (lv_sub hl [0, 1, 2, 3] rfl)
  exact lp1 (4294967296 + NF) 0 1 v f hIv rfl rfl rfl rfl rfl rfl rfl rfl gsX_X8_bestQuestion_1_q3.symm ⟨by decide, by decide⟩ hM_v hA_f (show (2147483647 - (1 : Int32).toInt).toNat < 4294967296 + NF from om_188 tc_1) _ _ _ hP hD hS (lv_sub hl [0, 1, 2, 3] rfl)
set_option maxHeartbeats 4000000 in
set_option maxRecDepth 100000 in
theorem sX_X10_ask_1 (NF : Nat) (l : Launch) (dC : Nat → ClassId) (dI : Nat → Nat → Nat) (cy : Nat → ClassId) (x0 : Nat) (x : Nat → Nat) (p1 : Int32) (p2 : Int32) (v : Nat → Int32) (f : Nat → Nat → Int32) (hIv : XI v)  : ctI l (dC, dI) cy yX10_ask cX10_ask 5 .int 7 204 0 0 ((Nat → Int32) × (Nat → Nat → Int32)) [.ref x0, .int p1, .int p2] (XW cy x0 x v f) (fun r u => gsX_X10_ask_1 NF p1 p2 v f = (r, u) ∧ KV [] u.1 v ∧ KF [13, 14, 27] u.2 f ∧ XI u.1 ∧ u.1 0 = v 0 ∧ u.1 1 = v 1 ∧ u.1 7 = v 7 ∧ u.1 8 = v 8 ∧ u.1 9 = v 9 ∧ u.1 10 = v 10 ∧ u.1 31 = v 31 ∧ u.1 32 = v 32) (fun u => XW cy x0 x u.1 u.2) := by
  refine ctI_of (by decide) (Nat.le_of_ble_eq_true rfl) (fun p e s m below meth c A ls Q hx hb hml hts hown hE hP hD hA hl ret => ?_)
  have hM_v : KV [] v v := fun _ _ => rfl
  have hA_f : KF [13, 14, 27] f f := fun _ _ => rfl
  have hown : s.vm.findClass RX10 = some m.cls := hown
  have hS : va_S A s.heap s.heap [] := va_S.rf
  have hl : lv_has ls 5 [(0, .ref x0), (1, .int p1), (2, .int p2)] := hl
  refine lv_aload_n hx hb dX10_ask_0 rfl (lv_at hl 0 rfl) ?_
  refine va_get (D := (dC, dI)) (ci := 10) (v := .ref (x 35)) (C := RX10) (T := TX10) (N := 10) hx hb hts inB_10 hown hE.1 hP 0 rfl rfl 8 (Nat.le_of_ble_eq_true rfl) (hts _ k_499) (fun _ h9 => h9) rfl dX10_ask_1 ?_
  refine lv_iload_n hx hb dX10_ask_4 rfl (lv_at hl 2 rfl) ?_
  refine cbVi (n := 1) (rest := []) hx hb hml hown hts hE hP hD hS hA (sX_X8_growthsAt_1 NF l dC dI cy x0 x p2 v f hIv ) k_1247 k_1248 k_1249 k_112 k_1250 hd_yX8_growthsAt ⟨Nat.le_of_ble_eq_true rfl, Nat.le_of_ble_eq_true rfl⟩ 36 8 rfl rfl (rfl) hl.1 rfl (Nat.le_of_ble_eq_true rfl) dX10_ask_5 (fun r1 u H locs hw hP hD hS => ?_)
  obtain ⟨hG2, hw⟩ := hw
  obtain ⟨v3, f4⟩ := u
  obtain ⟨kV_v3, kF_f4, hIv3, hk0_v3, hk1_v3, hk7_v3, hk8_v3, hk9_v3, hk10_v3, hk31_v3, hk32_v3⟩ := hw
  have hM_v3 : KV [] v3 v := KV.tr kV_v3 hM_v rfl
  have hA_f4 : KF [13, 14, 27] f4 f := KF.tr kF_f4 hA_f rfl
  have hP : va_P (dC, dI) vwCl (XW cy x0 x v3 f4) H := hP
  have hD : va_D A (XW cy x0 x v3 f4) := hD
  refine lv_istore_n (lv' := [(3, .int r1), (0, .ref x0), (1, .int p1), (2, .int p2)]) hx hb dX10_ask_8 rfl hl (Nat.le_of_ble_eq_true rfl) rfl (fun ls hl => ?_)
  refine lv_iload_n hx hb dX10_ask_9 rfl (lv_at hl 0 rfl) ?_
  refine lv_if_eq (tgt := 22) hx hb dX10_ask_10 rfl (fun c5 => ?_) (fun c5 => ?_)
  · skip
    refine lv_iconst (v := (-1)) hx hb dX10_ask_22 rfl ?_
    exact ret (-1) (v3, f4) _ _ _ _ _ _ rfl ⟨(gsX_X10_ask_1_q0 hG2 c5), hM_v3, hA_f4, hIv3, hk0_v3, hk1_v3, hk7_v3, hk8_v3, hk9_v3, hk10_v3, hk31_v3, hk32_v3⟩ hP hD hS dX10_ask_23 (Nat.le_refl _) (Nat.le_refl _)
  · skip
    refine lv_iload_n hx hb dX10_ask_13 rfl (lv_at hl 2 rfl) ?_
    refine lv_if_lt (tgt := 22) hx hb dX10_ask_14 rfl (fun c6 => ?_) (fun c6 => ?_)
    · skip
      refine lv_iconst (v := (-1)) hx hb dX10_ask_22 rfl ?_
      exact ret (-1) (v3, f4) _ _ _ _ _ _ rfl ⟨(gsX_X10_ask_1_q1 hG2 c5 c6), hM_v3, hA_f4, hIv3, hk0_v3, hk1_v3, hk7_v3, hk8_v3, hk9_v3, hk10_v3, hk31_v3, hk32_v3⟩ hP hD hS dX10_ask_23 (Nat.le_refl _) (Nat.le_refl _)
    · skip
      refine lv_iload_n hx hb dX10_ask_17 rfl (lv_at hl 2 rfl) ?_
      refine lv_iconst (v := 1) hx hb dX10_ask_18 rfl ?_
      refine lv_icmp_le (tgt := 24) hx hb dX10_ask_19 rfl (fun c7 => ?_) (fun c7 => ?_)
      · skip
        refine lv_aload_n hx hb dX10_ask_24 rfl (lv_at hl 1 rfl) ?_
        refine va_get (D := (dC, dI)) (ci := 10) (v := .ref (x 35)) (C := RX10) (T := TX10) (N := 10) hx hb hts inB_10 hown hE.1 hP 0 rfl rfl 8 (Nat.le_of_ble_eq_true rfl) (hts _ k_499) (fun _ h9 => h9) rfl dX10_ask_25 ?_
        refine lv_iload_n hx hb dX10_ask_28 rfl (lv_at hl 0 rfl) ?_
        refine cbVi (n := 1) (rest := []) hx hb hml hown hts hE hP hD hS hA (sX_X8_bestQuestion_1 NF l dC dI cy x0 x r1 v3 f4 hIv3 ) k_1279 k_1280 k_1281 k_112 k_1282 hd_yX8_bestQuestion ⟨Nat.le_of_ble_eq_true rfl, Nat.le_of_ble_eq_true rfl⟩ 36 8 rfl rfl (rfl) hl.1 rfl (Nat.le_of_ble_eq_true rfl) dX10_ask_29 (fun r8 u H locs hw hP hD hS => ?_)
        obtain ⟨hG9, hw⟩ := hw
        obtain ⟨v10, f11⟩ := u
        obtain ⟨kV_v10, kF_f11, hIv10, hk0_v10, hk1_v10, hk7_v10, hk8_v10, hk9_v10, hk10_v10, hk31_v10, hk32_v10⟩ := hw
        have hM_v10 : KV [] v10 v := KV.tr kV_v10 hM_v3 rfl
        have hA_f11 : KF [13, 14, 27] f11 f := KF.tr kF_f11 hA_f4 rfl
        have hP : va_P (dC, dI) vwCl (XW cy x0 x v10 f11) H := hP
        have hD : va_D A (XW cy x0 x v10 f11) := hD
        refine lv_istore (lv' := [(4, .int r8), (3, .int r1), (0, .ref x0), (1, .int p1), (2, .int p2)]) hx hb dX10_ask_32 hl (Nat.le_of_ble_eq_true rfl) rfl (fun ls hl => ?_)
        refine lv_iload_n hx hb dX10_ask_34 rfl (lv_at hl 3 rfl) ?_
        refine lv_if_ne (tgt := 43) hx hb dX10_ask_35 rfl (fun c12 => ?_) (fun c12 => ?_)
        · skip
          refine lv_aload_n hx hb dX10_ask_43 rfl (lv_at hl 2 rfl) ?_
          refine va_get (D := (dC, dI)) (ci := 10) (v := .ref (x 35)) (C := RX10) (T := TX10) (N := 10) hx hb hts inB_10 hown hE.1 hP 0 rfl rfl 8 (Nat.le_of_ble_eq_true rfl) (hts _ k_499) (fun _ h9 => h9) rfl dX10_ask_44 ?_
          refine lv_iload_n hx hb dX10_ask_47 rfl (lv_at hl 1 rfl) ?_
          refine lv_iload hx hb dX10_ask_48 (lv_at hl 0 rfl) ?_
          refine cbVi (n := 2) (rest := []) hx hb hml hown hts hE hP hD hS hA (sX_X8_leftAtMost_1 NF l dC dI cy x0 x r1 r8 v10 f11 hIv10 ) k_1289 k_1284 k_1285 k_112 k_1286 hd_yX8_leftAtMost ⟨Nat.le_of_ble_eq_true rfl, Nat.le_of_ble_eq_true rfl⟩ 36 8 rfl rfl (rfl) hl.1 rfl (Nat.le_of_ble_eq_true rfl) dX10_ask_50 (fun r13 u H locs hw hP hD hS => ?_)
          obtain ⟨hG14, hw⟩ := hw
          obtain ⟨v15, f16⟩ := u
          obtain ⟨kV_v15, kF_f16, hIv15, hk0_v15, hk1_v15, hk7_v15, hk8_v15, hk9_v15, hk10_v15, hk31_v15, hk32_v15⟩ := hw
          have hM_v15 : KV [] v15 v := KV.tr kV_v15 hM_v10 rfl
          have hA_f16 : KF [13, 14, 27] f16 f := KF.tr kF_f16 hA_f11 rfl
          have hP : va_P (dC, dI) vwCl (XW cy x0 x v15 f16) H := hP
          have hD : va_D A (XW cy x0 x v15 f16) := hD
          exact ret r13 (v15, f16) _ _ _ _ _ _ rfl ⟨(gsX_X10_ask_1_q2 hG2 c5 c6 c7 hG9 c12 hG14), hM_v15, hA_f16, hIv15, (hk0_v15.trans (hk0_v10.trans hk0_v3)), (hk1_v15.trans (hk1_v10.trans hk1_v3)), (hk7_v15.trans (hk7_v10.trans hk7_v3)), (hk8_v15.trans (hk8_v10.trans hk8_v3)), (hk9_v15.trans (hk9_v10.trans hk9_v3)), (hk10_v15.trans (hk10_v10.trans hk10_v3)), (hk31_v15.trans (hk31_v10.trans hk31_v3)), (hk32_v15.trans (hk32_v10.trans hk32_v3))⟩ hP hD hS dX10_ask_53 (Nat.le_refl _) (Nat.le_refl _)
        · skip
          refine lv_iload hx hb dX10_ask_38 (lv_at hl 0 rfl) ?_
          refine lv_goto (tgt := 53) hx hb dX10_ask_40 rfl ?_
          exact ret r8 (v10, f11) _ _ _ _ _ _ rfl ⟨(gsX_X10_ask_1_q3 hG2 c5 c6 c7 hG9 c12), hM_v10, hA_f11, hIv10, (hk0_v10.trans hk0_v3), (hk1_v10.trans hk1_v3), (hk7_v10.trans hk7_v3), (hk8_v10.trans hk8_v3), (hk9_v10.trans hk9_v3), (hk10_v10.trans hk10_v3), (hk31_v10.trans hk31_v3), (hk32_v10.trans hk32_v3)⟩ hP hD hS dX10_ask_53 (Nat.le_refl _) (Nat.le_refl _)
      · skip
        refine lv_iconst (v := (-1)) hx hb dX10_ask_22 rfl ?_
        exact ret (-1) (v3, f4) _ _ _ _ _ _ rfl ⟨(gsX_X10_ask_1_q4 hG2 c5 c6 c7), hM_v3, hA_f4, hIv3, hk0_v3, hk1_v3, hk7_v3, hk8_v3, hk9_v3, hk10_v3, hk31_v3, hk32_v3⟩ hP hD hS dX10_ask_23 (Nat.le_refl _) (Nat.le_refl _)
set_option maxHeartbeats 4000000 in
set_option maxRecDepth 100000 in
theorem sX_X1_wears_1 (l : Launch) (dC : Nat → ClassId) (dI : Nat → Nat → Nat) (cy : Nat → ClassId) (x0 : Nat) (x : Nat → Nat) (p1 : Int32) (v : Nat → Int32) (f : Nat → Nat → Int32) (hIv : XI v)  : ctI l (dC, dI) cy yX1_wears cX1_wears 2 .int 2 81 0 0 Unit [.ref (x 21), .int p1] (XW cy x0 x v f) (fun r u => True) (fun u => XW cy x0 x v f) := by
  refine ctI_of (by decide) (Nat.le_of_ble_eq_true rfl) (fun p e s m below meth c A ls Q hx hb hml hts hown hE hP hD hA hl ret => ?_)
  have hown : s.vm.findClass RX1 = some m.cls := hown
  have hS : va_S A s.heap s.heap [] := va_S.rf
  have hl : lv_has ls 2 [(0, .ref (x 21)), (1, .int p1)] := hl
  refine lv_aload_n hx hb dX1_wears_0 rfl (lv_at hl 0 rfl) ?_
  refine va_get (D := (dC, dI)) (ci := 1) (v := .ref (x 26)) (C := RX1) (T := TX1) (N := 2) hx hb hts inB_1 hown hE.1 hP 22 rfl rfl 0 (Nat.le_of_ble_eq_true rfl) (hts _ k_318) (fun _ h9 => h9) rfl dX1_wears_1 ?_
  refine lv_iload_n hx hb dX1_wears_4 rfl (lv_at hl 1 rfl) ?_
  refine cbVi (n := 1) (rest := []) hx hb hml hown hts hE hP hD hS hA (sX_X7_hasMan_1 0 l dC dI cy x0 x p1 v f hIv ) k_808 k_307 k_308 k_104 k_309 hd_yX7_hasMan ⟨Nat.le_of_ble_eq_true rfl, Nat.le_of_ble_eq_true rfl⟩ 27 7 rfl rfl (rfl) hl.1 rfl (Nat.le_of_ble_eq_true rfl) dX1_wears_5 (fun r1 u H locs hw hP hD hS => ?_)
  obtain ⟨hG2, hw⟩ := hw
  rcases hw with ⟨g3, g3_0, g3_1, g3_2⟩ | ⟨g3⟩
  · skip
    subst g3
    refine lv_if_eq (tgt := 23) hx hb dX1_wears_8 rfl (fun c0 => absurd c0 (by decide)) (fun _ => ?_)
    refine lv_aload_n hx hb dX1_wears_11 rfl (lv_at hl 0 rfl) ?_
    refine va_get (D := (dC, dI)) (ci := 1) (v := .ref (x 22)) (C := RX1) (T := TX1) (N := 2) hx hb hts inB_1 hown hE.1 hP 22 rfl rfl 1 (Nat.le_of_ble_eq_true rfl) (hts _ k_319) (fun _ h9 => h9) rfl dX1_wears_12 ?_
    refine lv_bipush (v := 6) hx hb dX1_wears_15 rfl ?_
    refine lv_iload_n hx hb dX1_wears_17 rfl (lv_at hl 1 rfl) ?_
    refine lv_iadd hx hb dX1_wears_18 ?_
    refine lv_topi (fun t4 et4 => ?_)
    have zt4 : t4.toInt = 6 + p1.toInt := (congrArg Int32.toInt et4).trans (add_i tc_6 rfl (om_189 g3_0) (om_190 g3_2))
    refine ldI hx hb hE hP 23 rfl (vpI (k := 44) rfl (show 0 ≤ t4.toInt from om_191 g3_0 zt4) (show t4.toInt < 44 from om_192 g3_2 zt4)) rfl rfl dX1_wears_19 ?_
    refine lv_topi (fun t6 et6 => ?_)
    refine lv_goto (tgt := 24) hx hb dX1_wears_20 rfl ?_
    exact ret t6 () _ _ _ _ _ _ rfl trivial hP hD hS dX1_wears_24 (Nat.le_refl _) (Nat.le_refl _)
  · skip
    subst g3
    refine lv_if_eq (tgt := 23) hx hb dX1_wears_8 rfl (fun _ => ?_) (fun c0 => absurd (by decide) c0)
    refine lv_iconst (v := (-1)) hx hb dX1_wears_23 rfl ?_
    exact ret (-1) () _ _ _ _ _ _ rfl trivial hP hD hS dX1_wears_24 (Nat.le_refl _) (Nat.le_refl _)
set_option maxHeartbeats 4000000 in
set_option maxRecDepth 100000 in
theorem sX_X1_fits_1 (l : Launch) (dC : Nat → ClassId) (dI : Nat → Nat → Nat) (cy : Nat → ClassId) (x0 : Nat) (x : Nat → Nat) (p1 : Int32) (p2 : Int32) (v : Nat → Int32) (f : Nat → Nat → Int32) (hIv : XI v)  : ctI l (dC, dI) cy yX1_fits cX1_fits 3 .boolean 4 133 0 0 ((Nat → Int32) × (Nat → Nat → Int32)) [.ref (x 21), .int p1, .int p2] (XW cy x0 x v f) (fun r u => KV [] u.1 v ∧ KF [13, 14] u.2 f ∧ XI u.1 ∧ u.1 0 = v 0 ∧ u.1 1 = v 1 ∧ u.1 7 = v 7 ∧ u.1 8 = v 8 ∧ u.1 9 = v 9 ∧ u.1 10 = v 10 ∧ u.1 31 = v 31 ∧ u.1 32 = v 32 ∧ ((r = 1) ∨ (r = 0))) (fun u => XW cy x0 x u.1 u.2) := by
  refine ctI_of (by decide) (Nat.le_of_ble_eq_true rfl) (fun p e s m below meth c A ls Q hx hb hml hts hown hE hP hD hA hl ret => ?_)
  have hM_v : KV [] v v := fun _ _ => rfl
  have hA_f : KF [13, 14] f f := fun _ _ => rfl
  have hown : s.vm.findClass RX1 = some m.cls := hown
  have hS : va_S A s.heap s.heap [] := va_S.rf
  have hl : lv_has ls 3 [(0, .ref (x 21)), (1, .int p1), (2, .int p2)] := hl
  refine lv_aload_n hx hb dX1_fits_0 rfl (lv_at hl 0 rfl) ?_
  refine va_get (D := (dC, dI)) (ci := 1) (v := .ref (x 26)) (C := RX1) (T := TX1) (N := 2) hx hb hts inB_1 hown hE.1 hP 22 rfl rfl 0 (Nat.le_of_ble_eq_true rfl) (hts _ k_318) (fun _ h9 => h9) rfl dX1_fits_1 ?_
  refine lv_iload_n hx hb dX1_fits_4 rfl (lv_at hl 1 rfl) ?_
  refine cbVi (n := 1) (rest := []) hx hb hml hown hts hE hP hD hS hA (sX_X7_hasMan_1 0 l dC dI cy x0 x p1 v f hIv ) k_808 k_307 k_308 k_104 k_309 hd_yX7_hasMan ⟨Nat.le_of_ble_eq_true rfl, Nat.le_of_ble_eq_true rfl⟩ 27 7 rfl rfl (rfl) hl.1 rfl (Nat.le_of_ble_eq_true rfl) dX1_fits_5 (fun r1 u H locs hw hP hD hS => ?_)
  obtain ⟨hG2, hw⟩ := hw
  rcases hw with ⟨g3, g3_0, g3_1, g3_2⟩ | ⟨g3⟩
  · skip
    subst g3
    refine lv_if_eq (tgt := 42) hx hb dX1_fits_8 rfl (fun c0 => absurd c0 (by decide)) (fun _ => ?_)
    refine lv_aload_n hx hb dX1_fits_11 rfl (lv_at hl 0 rfl) ?_
    refine va_get (D := (dC, dI)) (ci := 1) (v := .ref (x 26)) (C := RX1) (T := TX1) (N := 2) hx hb hts inB_1 hown hE.1 hP 22 rfl rfl 0 (Nat.le_of_ble_eq_true rfl) (hts _ k_318) (fun _ h9 => h9) rfl dX1_fits_12 ?_
    refine lv_iload_n hx hb dX1_fits_15 rfl (lv_at hl 2 rfl) ?_
    refine cbVi (n := 1) (rest := []) hx hb hml hown hts hE hP hD hS hA (sX_X7_hasCoat_1 0 l dC dI cy x0 x p2 v f hIv ) k_821 k_315 k_316 k_104 k_317 hd_yX7_hasCoat ⟨Nat.le_of_ble_eq_true rfl, Nat.le_of_ble_eq_true rfl⟩ 27 7 rfl rfl (rfl) hl.1 rfl (Nat.le_of_ble_eq_true rfl) dX1_fits_16 (fun r4 u H locs hw hP hD hS => ?_)
    obtain ⟨hG5, hw⟩ := hw
    rcases hw with ⟨g6, g6_0, g6_1, g6_2⟩ | ⟨g6⟩
    · skip
      subst g6
      refine lv_if_eq (tgt := 42) hx hb dX1_fits_19 rfl (fun c0 => absurd c0 (by decide)) (fun _ => ?_)
      refine lv_aload_n hx hb dX1_fits_22 rfl (lv_at hl 0 rfl) ?_
      refine lv_iload_n hx hb dX1_fits_23 rfl (lv_at hl 1 rfl) ?_
      refine lv_iload_n hx hb dX1_fits_24 rfl (lv_at hl 2 rfl) ?_
      refine cbVi (n := 2) (rest := []) hx hb hml hown hts hE hP hD hS hA (sX_X1_illness_1 0 l dC dI cy x0 x p1 p2 v f hIv ) k_822 k_823 k_824 k_106 k_825 hd_yX1_illness ⟨Nat.le_of_ble_eq_true rfl, Nat.le_of_ble_eq_true rfl⟩ 22 1 rfl rfl (rfl) hl.1 rfl (Nat.le_of_ble_eq_true rfl) dX1_fits_25 (fun r7 u H locs hw hP hD hS => ?_)
      obtain ⟨hG8, hw⟩ := hw
      obtain ⟨v9, f10⟩ := u
      obtain ⟨kV_v9, kF_f10, hIv9, hk0_v9, hk1_v9, hk7_v9, hk8_v9, hk9_v9, hk10_v9, hk31_v9, hk32_v9⟩ := hw
      have hM_v9 : KV [] v9 v := KV.tr kV_v9 hM_v rfl
      have hA_f10 : KF [13, 14] f10 f := KF.tr kF_f10 hA_f rfl
      have hP : va_P (dC, dI) vwCl (XW cy x0 x v9 f10) H := hP
      have hD : va_D A (XW cy x0 x v9 f10) := hD
      refine lv_aload_n hx hb dX1_fits_28 rfl (lv_at hl 0 rfl) ?_
      refine va_get (D := (dC, dI)) (ci := 1) (v := .ref (x 26)) (C := RX1) (T := TX1) (N := 2) hx hb hts inB_1 hown hE.1 hP 22 rfl rfl 0 (Nat.le_of_ble_eq_true rfl) (hts _ k_318) (fun _ h9 => h9) rfl dX1_fits_29 ?_
      refine va_getN (D := (dC, dI)) (ci := 7) (v := .int (v9 33)) (C := RX7) (T := TX7) (N := 10) hx hb hts inB_7 hown hE.1 hP 27 rfl rfl 5 (Nat.le_of_ble_eq_true rfl) (va_Nw.use rfl (hE.2 _ k_232)) (fun _ h9 => h9) rfl dX1_fits_32 ?_
      refine lv_icmp_gt (tgt := 42) hx hb dX1_fits_35 rfl (fun c11 => ?_) (fun c11 => ?_)
      · skip
        refine lv_iconst (v := 0) hx hb dX1_fits_42 rfl ?_
        exact ret 0 (v9, f10) _ _ _ _ _ _ rfl ⟨hM_v9, hA_f10, hIv9, hk0_v9, hk1_v9, hk7_v9, hk8_v9, hk9_v9, hk10_v9, hk31_v9, hk32_v9, (Or.inr rfl)⟩ hP hD hS dX1_fits_43 (Nat.le_refl _) (Nat.le_refl _)
      · skip
        refine lv_iconst (v := 1) hx hb dX1_fits_38 rfl ?_
        refine lv_goto (tgt := 43) hx hb dX1_fits_39 rfl ?_
        exact ret 1 (v9, f10) _ _ _ _ _ _ rfl ⟨hM_v9, hA_f10, hIv9, hk0_v9, hk1_v9, hk7_v9, hk8_v9, hk9_v9, hk10_v9, hk31_v9, hk32_v9, (Or.inl rfl)⟩ hP hD hS dX1_fits_43 (Nat.le_refl _) (Nat.le_refl _)
    · skip
      subst g6
      refine lv_if_eq (tgt := 42) hx hb dX1_fits_19 rfl (fun _ => ?_) (fun c0 => absurd (by decide) c0)
      refine lv_iconst (v := 0) hx hb dX1_fits_42 rfl ?_
      exact ret 0 (v, f) _ _ _ _ _ _ rfl ⟨hM_v, hA_f, hIv, rfl, rfl, rfl, rfl, rfl, rfl, rfl, rfl, (Or.inr rfl)⟩ hP hD hS dX1_fits_43 (Nat.le_refl _) (Nat.le_refl _)
  · skip
    subst g3
    refine lv_if_eq (tgt := 42) hx hb dX1_fits_8 rfl (fun _ => ?_) (fun c0 => absurd (by decide) c0)
    refine lv_iconst (v := 0) hx hb dX1_fits_42 rfl ?_
    exact ret 0 (v, f) _ _ _ _ _ _ rfl ⟨hM_v, hA_f, hIv, rfl, rfl, rfl, rfl, rfl, rfl, rfl, rfl, (Or.inr rfl)⟩ hP hD hS dX1_fits_43 (Nat.le_refl _) (Nat.le_refl _)
set_option maxHeartbeats 4000000 in
set_option maxRecDepth 100000 in
theorem sX_X1_fittingCoats_1 (l : Launch) (dC : Nat → ClassId) (dI : Nat → Nat → Nat) (cy : Nat → ClassId) (x0 : Nat) (x : Nat → Nat) (p1 : Int32) (v : Nat → Int32) (f : Nat → Nat → Int32) (hIv : XI v)  : ctI l (dC, dI) cy yX1_fittingCoats cX1_fittingCoats 4 .int 5 155 0 0 ((Nat → Int32) × (Nat → Nat → Int32)) [.ref (x 21), .int p1] (XW cy x0 x v f) (fun r u => KV [] u.1 v ∧ KF [13, 14] u.2 f ∧ XI u.1 ∧ u.1 0 = v 0 ∧ u.1 1 = v 1 ∧ u.1 7 = v 7 ∧ u.1 8 = v 8 ∧ u.1 9 = v 9 ∧ u.1 10 = v 10 ∧ u.1 31 = v 31 ∧ u.1 32 = v 32) (fun u => XW cy x0 x u.1 u.2) := by
  refine ctI_of (by decide) (Nat.le_of_ble_eq_true rfl) (fun p e s m below meth c A ls Q hx hb hml hts hown hE hP hD hA hl ret => ?_)
  have hM_v : KV [] v v := fun _ _ => rfl
  have hA_f : KF [13, 14] f f := fun _ _ => rfl
  have hown : s.vm.findClass RX1 = some m.cls := hown
  have hS : va_S A s.heap s.heap [] := va_S.rf
  have hl : lv_has ls 4 [(0, .ref (x 21)), (1, .int p1)] := hl
  refine lv_iconst (v := 0) hx hb dX1_fittingCoats_0 rfl ?_
  refine lv_istore_n (lv' := [(2, .int 0), (0, .ref (x 21)), (1, .int p1)]) hx hb dX1_fittingCoats_1 rfl hl (Nat.le_of_ble_eq_true rfl) rfl (fun ls hl => ?_)
  refine lv_iconst (v := 0) hx hb dX1_fittingCoats_2 rfl ?_
  refine lv_istore_n (lv' := [(3, .int 0), (2, .int 0), (0, .ref (x 21)), (1, .int p1)]) hx hb dX1_fittingCoats_3 rfl hl (Nat.le_of_ble_eq_true rfl) rfl (fun ls hl => ?_)
  have lp1 : ∀ (n1 : Nat) (l2_1 : Int32) (l3_1 : Int32) (v1 : Nat → Int32) (f1 : Nat → Nat → Int32), XI v1 → v1 0 = (v 0) → v1 1 = (v 1) → v1 7 = (v 7) → v1 8 = (v 8) → v1 9 = (v 9) → v1 10 = (v 10) → v1 31 = (v 31) → v1 32 = (v 32) → ((0 : Int) ≤ l3_1.toInt ∧ l3_1.toInt ≤ 2147483647) → KV [] v1 v → KF [13, 14] f1 f → (2147483647 - l3_1.toInt).toNat < n1 → ∀ (H : Heap) (locs : List Loc) (ls : Array Slot), va_P (dC, dI) vwCl (XW cy x0 x v1 f1) H → va_D A (XW cy x0 x v1 f1) → va_S A s.heap H locs → lv_has ls 4 [(3, .int l3_1), (2, .int l2_1), (0, .ref (x 21)), (1, .int p1)] → W p l e { frames := 5, cells := 0, slots := 0, locals := 155 } s m ([.ref (x 21), .int p1] : List Value).toArray below meth c H locs 0 0 Q (F0 m 4 ls []) := by
    intro n1
    induction n1 with
    | zero => intro l2_1 l3_1 v1 f1 hIv1 hq0_v1 hq1_v1 hq7_v1 hq8_v1 hq9_v1 hq10_v1 hq31_v1 hq32_v1 hr3_1 hM_v1 hA_f1 hm; exact absurd hm (Nat.not_lt_zero _)
    | succ n1 ih1 =>
      intro l2_1 l3_1 v1 f1 hIv1 hq0_v1 hq1_v1 hq7_v1 hq8_v1 hq9_v1 hq10_v1 hq31_v1 hq32_v1 hr3_1 hM_v1 hA_f1 hm1 H locs ls hP hD hS hl
      refine lv_iload_n hx hb dX1_fittingCoats_4 rfl (lv_at hl 0 rfl) ?_
      refine lv_aload_n hx hb dX1_fittingCoats_5 rfl (lv_at hl 2 rfl) ?_
      refine va_get (D := (dC, dI)) (ci := 1) (v := .ref (x 26)) (C := RX1) (T := TX1) (N := 2) hx hb hts inB_1 hown hE.1 hP 22 rfl rfl 0 (Nat.le_of_ble_eq_true rfl) (hts _ k_318) (fun _ h9 => h9) rfl dX1_fittingCoats_6 ?_
      refine va_getN (D := (dC, dI)) (ci := 7) (v := .int (v1 32)) (C := RX7) (T := TX7) (N := 10) hx hb hts inB_7 hown hE.1 hP 27 rfl rfl 4 (Nat.le_of_ble_eq_true rfl) (va_Nw.use rfl (hE.2 _ k_226)) (fun _ h9 => h9) rfl dX1_fittingCoats_9 ?_
      refine tI (y := (v 32)) hq32_v1 ?_
      have b32_v : 0 ≤ (v 32).toInt ∧ (v 32).toInt ≤ 6 := Xb_32 hIv
      refine lv_icmp_ge (tgt := 36) hx hb dX1_fittingCoats_12 rfl (fun c2 => ?_) (fun c2 => ?_)
      · skip
        refine lv_iload_n hx hb dX1_fittingCoats_36 rfl (lv_at hl 1 rfl) ?_
        exact ret l2_1 (v1, f1) _ _ _ _ _ _ rfl ⟨hM_v1, hA_f1, hIv1, (show v1 0 = v 0 from hq0_v1), (show v1 1 = v 1 from hq1_v1), (show v1 7 = v 7 from hq7_v1), (show v1 8 = v 8 from hq8_v1), (show v1 9 = v 9 from hq9_v1), (show v1 10 = v 10 from hq10_v1), (show v1 31 = v 31 from hq31_v1), (show v1 32 = v 32 from hq32_v1)⟩ hP hD hS dX1_fittingCoats_37 (Nat.le_refl _) (Nat.le_refl _)
      · skip
        have zc2 : ¬ ((v 32).toInt ≤ l3_1.toInt) := zMn rfl rfl c2
        refine lv_aload_n hx hb dX1_fittingCoats_15 rfl (lv_at hl 2 rfl) ?_
        refine lv_iload_n hx hb dX1_fittingCoats_16 rfl (lv_at hl 3 rfl) ?_
        refine lv_iload_n hx hb dX1_fittingCoats_17 rfl (lv_at hl 0 rfl) ?_
        refine cbVi (n := 2) (rest := []) hx hb hml hown hts hE hP hD hS hA (sX_X1_fits_1 l dC dI cy x0 x p1 l3_1 v1 f1 hIv1 ) k_817 k_818 k_819 k_106 k_820 hd_yX1_fits ⟨Nat.le_of_ble_eq_true rfl, Nat.le_of_ble_eq_true rfl⟩ 22 1 rfl rfl (rfl) hl.1 rfl (Nat.le_of_ble_eq_true rfl) dX1_fittingCoats_18 (fun r7 u H locs hw hP hD hS => ?_)
        obtain ⟨v8, f9⟩ := u
        obtain ⟨kV_v8, kF_f9, hIv8, hk0_v8, hk1_v8, hk7_v8, hk8_v8, hk9_v8, hk10_v8, hk31_v8, hk32_v8, hw⟩ := hw
        have hM_v8 : KV [] v8 v := KV.tr kV_v8 hM_v1 rfl
        have hA_f9 : KF [13, 14] f9 f := KF.tr kF_f9 hA_f1 rfl
        have hP : va_P (dC, dI) vwCl (XW cy x0 x v8 f9) H := hP
        have hD : va_D A (XW cy x0 x v8 f9) := hD
        have hq0_v8 : v8 0 = (v 0) := hk0_v8.trans hq0_v1
        have hq1_v8 : v8 1 = (v 1) := hk1_v8.trans hq1_v1
        have hq7_v8 : v8 7 = (v 7) := hk7_v8.trans hq7_v1
        have hq8_v8 : v8 8 = (v 8) := hk8_v8.trans hq8_v1
        have hq9_v8 : v8 9 = (v 9) := hk9_v8.trans hq9_v1
        have hq10_v8 : v8 10 = (v 10) := hk10_v8.trans hq10_v1
        have hq31_v8 : v8 31 = (v 31) := hk31_v8.trans hq31_v1
        have hq32_v8 : v8 32 = (v 32) := hk32_v8.trans hq32_v1
        rcases hw with ⟨g10⟩ | ⟨g10⟩
        · skip
          subst g10
          refine lv_if_eq (tgt := 30) hx hb dX1_fittingCoats_21 rfl (fun c0 => absurd c0 (by decide)) (fun _ => ?_)
          refine lv_iload_n hx hb dX1_fittingCoats_24 rfl (lv_at hl 1 rfl) ?_
          refine lv_iconst (v := 1) hx hb dX1_fittingCoats_25 rfl ?_
          refine lv_iload_n hx hb dX1_fittingCoats_26 rfl (lv_at hl 0 rfl) ?_
          refine lv_ishl hx hb dX1_fittingCoats_27 ?_
          refine lv_topi (fun t11 et11 => ?_)
          refine lv_ior hx hb dX1_fittingCoats_28 ?_
          refine lv_topi (fun t12 et12 => ?_)
          refine lv_istore_n (lv' := [(2, .int t12), (3, .int l3_1), (0, .ref (x 21)), (1, .int p1)]) hx hb dX1_fittingCoats_29 rfl hl (Nat.le_of_ble_eq_true rfl) rfl (fun ls hl => ?_)
          obtain ⟨t13, et13⟩ : ∃ y : Int32, y = l3_1 + 1 := ⟨_, rfl⟩
          have zt13 : t13.toInt = l3_1.toInt + 1 := (congrArg Int32.toInt et13).trans (add_i rfl tc_1 (om_41 hr3_1) (om_193 b32_v zc2))
          refine lv_iinc (v := t13) (lv' := [(3, .int t13), (2, .int t12), (0, .ref (x 21)), (1, .int p1)]) hx hb dX1_fittingCoats_30 hl (k := 1) rfl et13.symm (Nat.le_of_ble_eq_true rfl) rfl (fun ls hl => ?_)
          refine lv_goto (tgt := 4) hx hb dX1_fittingCoats_33 rfl ?_
          have rg14 := fb_rng t13
          exact ih1 t12 t13 v8 f9 hIv8 hq0_v8 hq1_v8 hq7_v8 hq8_v8 hq9_v8 hq10_v8 hq31_v8 hq32_v8 ⟨show (0 : Int) ≤ t13.toInt from om_43 hr3_1 zt13, show t13.toInt ≤ (2147483647 : Int) from om_44 rg14⟩ hM_v8 hA_f9 (show (2147483647 - t13.toInt).toNat < n1 from om_33 hm1 zt13 rg14) _ _ _ hP hD hS (lv_sub hl [0, 1, 2, 3] rfl)
        · skip
          subst g10
          refine lv_if_eq (tgt := 30) hx hb dX1_fittingCoats_21 rfl (fun _ => ?_) (fun c0 => absurd (by decide) c0)
          obtain ⟨t15, et15⟩ : ∃ y : Int32, y = l3_1 + 1 := ⟨_, rfl⟩
          have zt15 : t15.toInt = l3_1.toInt + 1 := (congrArg Int32.toInt et15).trans (add_i rfl tc_1 (om_41 hr3_1) (om_193 b32_v zc2))
          refine lv_iinc (v := t15) (lv' := [(3, .int t15), (2, .int l2_1), (0, .ref (x 21)), (1, .int p1)]) hx hb dX1_fittingCoats_30 hl (k := 0) rfl et15.symm (Nat.le_of_ble_eq_true rfl) rfl (fun ls hl => ?_)
          refine lv_goto (tgt := 4) hx hb dX1_fittingCoats_33 rfl ?_
          have rg16 := fb_rng t15
          exact ih1 l2_1 t15 v8 f9 hIv8 hq0_v8 hq1_v8 hq7_v8 hq8_v8 hq9_v8 hq10_v8 hq31_v8 hq32_v8 ⟨show (0 : Int) ≤ t15.toInt from om_43 hr3_1 zt15, show t15.toInt ≤ (2147483647 : Int) from om_44 rg16⟩ hM_v8 hA_f9 (show (2147483647 - t15.toInt).toNat < n1 from om_33 hm1 zt15 rg16) _ _ _ hP hD hS (lv_sub hl [0, 1, 2, 3] rfl)
  exact lp1 _ 0 0 v f hIv rfl rfl rfl rfl rfl rfl rfl rfl ⟨by decide, by decide⟩ hM_v hA_f (Nat.lt_succ_self _) _ _ _ hP hD hS (lv_sub hl [0, 1, 2, 3] rfl)
set_option maxHeartbeats 4000000 in
set_option maxRecDepth 100000 in
theorem sX_X10_man_1 (l : Launch) (dC : Nat → ClassId) (dI : Nat → Nat → Nat) (cy : Nat → ClassId) (x0 : Nat) (x : Nat → Nat) (p1 : Int32) (p2 : Int32) (v : Nat → Int32) (f : Nat → Nat → Int32) (hIv : XI v)  : ctI l (dC, dI) cy yX10_man cX10_man 3 .int 6 178 0 0 ((Nat → Int32) × (Nat → Nat → Int32)) [.ref x0, .int p1, .int p2] (XW cy x0 x v f) (fun r u => KV [] u.1 v ∧ KF [13, 14] u.2 f ∧ XI u.1 ∧ u.1 0 = v 0 ∧ u.1 1 = v 1 ∧ u.1 7 = v 7 ∧ u.1 8 = v 8 ∧ u.1 9 = v 9 ∧ u.1 10 = v 10 ∧ u.1 31 = v 31 ∧ u.1 32 = v 32) (fun u => XW cy x0 x u.1 u.2) := by
  refine ctI_of (by decide) (Nat.le_of_ble_eq_true rfl) (fun p e s m below meth c A ls Q hx hb hml hts hown hE hP hD hA hl ret => ?_)
  have hM_v : KV [] v v := fun _ _ => rfl
  have hA_f : KF [13, 14] f f := fun _ _ => rfl
  have hown : s.vm.findClass RX10 = some m.cls := hown
  have hS : va_S A s.heap s.heap [] := va_S.rf
  have hl : lv_has ls 3 [(0, .ref x0), (1, .int p1), (2, .int p2)] := hl
  refine lv_aload_n hx hb dX10_man_0 rfl (lv_at hl 0 rfl) ?_
  refine va_get (D := (dC, dI)) (ci := 10) (v := .ref (x 26)) (C := RX10) (T := TX10) (N := 10) hx hb hts inB_10 hown hE.1 hP 0 rfl rfl 2 (Nat.le_of_ble_eq_true rfl) (hts _ k_493) (fun _ h9 => h9) rfl dX10_man_1 ?_
  refine lv_iload_n hx hb dX10_man_4 rfl (lv_at hl 1 rfl) ?_
  refine cbVi (n := 1) (rest := []) hx hb hml hown hts hE hP hD hS hA (sX_X7_hasMan_1 0 l dC dI cy x0 x p1 v f hIv ) k_802 k_307 k_308 k_104 k_309 hd_yX7_hasMan ⟨Nat.le_of_ble_eq_true rfl, Nat.le_of_ble_eq_true rfl⟩ 27 7 rfl rfl (rfl) hl.1 rfl (Nat.le_of_ble_eq_true rfl) dX10_man_5 (fun r1 u H locs hw hP hD hS => ?_)
  obtain ⟨hG2, hw⟩ := hw
  rcases hw with ⟨g3, g3_0, g3_1, g3_2⟩ | ⟨g3⟩
  · skip
    subst g3
    refine lv_if_ne (tgt := 14) hx hb dX10_man_8 rfl (fun _ => ?_) (fun c0 => absurd c0 (by decide))
    refine lv_iload_n hx hb dX10_man_14 rfl (lv_at hl 2 rfl) ?_
    by_cases c4 : p2 = 0
    · skip
      refine lv_tableIn (off := 33) (tgt := 48) hx hb dX10_man_15 (by rw [c4]; decide) (by rw [c4]; decide) (by rw [c4]; decide) (by decide) ?_
      refine lv_aload_n hx hb dX10_man_48 rfl (lv_at hl 0 rfl) ?_
      refine va_get (D := (dC, dI)) (ci := 10) (v := .ref (x 26)) (C := RX10) (T := TX10) (N := 10) hx hb hts inB_10 hown hE.1 hP 0 rfl rfl 2 (Nat.le_of_ble_eq_true rfl) (hts _ k_493) (fun _ h9 => h9) rfl dX10_man_49 ?_
      refine lv_iconst (v := 0) hx hb dX10_man_52 rfl ?_
      refine lv_iload_n hx hb dX10_man_53 rfl (lv_at hl 1 rfl) ?_
      refine cbVi (n := 2) (rest := []) hx hb hml hown hts hE hP hD hS hA (sX_X7_manPart_1 0 l dC dI cy x0 x 0 p1 v f hIv ) k_803 k_303 k_304 k_104 k_305 hd_yX7_manPart ⟨Nat.le_of_ble_eq_true rfl, Nat.le_of_ble_eq_true rfl⟩ 27 7 rfl rfl (rfl) hl.1 rfl (Nat.le_of_ble_eq_true rfl) dX10_man_54 (fun r5 u H locs hw hP hD hS => ?_)
      have hG6 := hw
      exact ret r5 (v, f) _ _ _ _ _ _ rfl ⟨hM_v, hA_f, hIv, rfl, rfl, rfl, rfl, rfl, rfl, rfl, rfl⟩ hP hD hS dX10_man_57 (Nat.le_refl _) (Nat.le_refl _)
    · skip
      have zc4 : ¬ (p2.toInt = 0) := zEn rfl tc_0 c4
      by_cases c7 : p2 = 1
      · skip
        refine lv_tableIn (off := 43) (tgt := 58) hx hb dX10_man_15 (by rw [c7]; decide) (by rw [c7]; decide) (by rw [c7]; decide) (by decide) ?_
        refine lv_aload_n hx hb dX10_man_58 rfl (lv_at hl 0 rfl) ?_
        refine va_get (D := (dC, dI)) (ci := 10) (v := .ref (x 21)) (C := RX10) (T := TX10) (N := 10) hx hb hts inB_10 hown hE.1 hP 0 rfl rfl 3 (Nat.le_of_ble_eq_true rfl) (hts _ k_494) (fun _ h9 => h9) rfl dX10_man_59 ?_
        refine lv_iload_n hx hb dX10_man_62 rfl (lv_at hl 1 rfl) ?_
        refine cbVi (n := 1) (rest := []) hx hb hml hown hts hE hP hD hS hA (sX_X1_manWide_1 0 l dC dI cy x0 x p1 v f hIv ) k_804 k_805 k_806 k_106 k_807 hd_yX1_manWide ⟨Nat.le_of_ble_eq_true rfl, Nat.le_of_ble_eq_true rfl⟩ 22 1 rfl rfl (rfl) hl.1 rfl (Nat.le_of_ble_eq_true rfl) dX10_man_63 (fun r8 u H locs hw hP hD hS => ?_)
        have hG9 := hw
        exact ret r8 (v, f) _ _ _ _ _ _ rfl ⟨hM_v, hA_f, hIv, rfl, rfl, rfl, rfl, rfl, rfl, rfl, rfl⟩ hP hD hS dX10_man_66 (Nat.le_refl _) (Nat.le_refl _)
      · skip
        have zc7 : ¬ (p2.toInt = 1) := zEn rfl tc_1 c7
        by_cases c10 : p2 = 2
        · skip
          refine lv_tableIn (off := 52) (tgt := 67) hx hb dX10_man_15 (by rw [c10]; decide) (by rw [c10]; decide) (by rw [c10]; decide) (by decide) ?_
          refine lv_aload_n hx hb dX10_man_67 rfl (lv_at hl 0 rfl) ?_
          refine va_get (D := (dC, dI)) (ci := 10) (v := .ref (x 26)) (C := RX10) (T := TX10) (N := 10) hx hb hts inB_10 hown hE.1 hP 0 rfl rfl 2 (Nat.le_of_ble_eq_true rfl) (hts _ k_493) (fun _ h9 => h9) rfl dX10_man_68 ?_
          refine lv_iconst (v := 2) hx hb dX10_man_71 rfl ?_
          refine lv_iload_n hx hb dX10_man_72 rfl (lv_at hl 1 rfl) ?_
          refine cbVi (n := 2) (rest := []) hx hb hml hown hts hE hP hD hS hA (sX_X7_manPart_1 0 l dC dI cy x0 x 2 p1 v f hIv ) k_803 k_303 k_304 k_104 k_305 hd_yX7_manPart ⟨Nat.le_of_ble_eq_true rfl, Nat.le_of_ble_eq_true rfl⟩ 27 7 rfl rfl (rfl) hl.1 rfl (Nat.le_of_ble_eq_true rfl) dX10_man_73 (fun r11 u H locs hw hP hD hS => ?_)
          have hG12 := hw
          exact ret r11 (v, f) _ _ _ _ _ _ rfl ⟨hM_v, hA_f, hIv, rfl, rfl, rfl, rfl, rfl, rfl, rfl, rfl⟩ hP hD hS dX10_man_76 (Nat.le_refl _) (Nat.le_refl _)
        · skip
          have zc10 : ¬ (p2.toInt = 2) := zEn rfl tc_2 c10
          by_cases c13 : p2 = 3
          · skip
            refine lv_tableIn (off := 62) (tgt := 77) hx hb dX10_man_15 (by rw [c13]; decide) (by rw [c13]; decide) (by rw [c13]; decide) (by decide) ?_
            refine lv_aload_n hx hb dX10_man_77 rfl (lv_at hl 0 rfl) ?_
            refine va_get (D := (dC, dI)) (ci := 10) (v := .ref (x 21)) (C := RX10) (T := TX10) (N := 10) hx hb hts inB_10 hown hE.1 hP 0 rfl rfl 3 (Nat.le_of_ble_eq_true rfl) (hts _ k_494) (fun _ h9 => h9) rfl dX10_man_78 ?_
            refine lv_iload_n hx hb dX10_man_81 rfl (lv_at hl 1 rfl) ?_
            refine cbVi (n := 1) (rest := []) hx hb hml hown hts hE hP hD hS hA (sX_X1_wears_1 l dC dI cy x0 x p1 v f hIv ) k_809 k_810 k_811 k_106 k_812 hd_yX1_wears ⟨Nat.le_of_ble_eq_true rfl, Nat.le_of_ble_eq_true rfl⟩ 22 1 rfl rfl (rfl) hl.1 rfl (Nat.le_of_ble_eq_true rfl) dX10_man_82 (fun r14 u H locs hw hP hD hS => ?_)
            exact ret r14 (v, f) _ _ _ _ _ _ rfl ⟨hM_v, hA_f, hIv, rfl, rfl, rfl, rfl, rfl, rfl, rfl, rfl⟩ hP hD hS dX10_man_85 (Nat.le_refl _) (Nat.le_refl _)
          · skip
            have zc13 : ¬ (p2.toInt = 3) := zEn rfl tc_3 c13
            by_cases c15 : p2 = 4
            · skip
              refine lv_tableIn (off := 71) (tgt := 86) hx hb dX10_man_15 (by rw [c15]; decide) (by rw [c15]; decide) (by rw [c15]; decide) (by decide) ?_
              refine lv_aload_n hx hb dX10_man_86 rfl (lv_at hl 0 rfl) ?_
              refine va_get (D := (dC, dI)) (ci := 10) (v := .ref (x 21)) (C := RX10) (T := TX10) (N := 10) hx hb hts inB_10 hown hE.1 hP 0 rfl rfl 3 (Nat.le_of_ble_eq_true rfl) (hts _ k_494) (fun _ h9 => h9) rfl dX10_man_87 ?_
              refine lv_iload_n hx hb dX10_man_90 rfl (lv_at hl 1 rfl) ?_
              refine cbVi (n := 1) (rest := []) hx hb hml hown hts hE hP hD hS hA (sX_X1_fittingCoats_1 l dC dI cy x0 x p1 v f hIv ) k_813 k_814 k_815 k_106 k_816 hd_yX1_fittingCoats ⟨Nat.le_of_ble_eq_true rfl, Nat.le_of_ble_eq_true rfl⟩ 22 1 rfl rfl (rfl) hl.1 rfl (Nat.le_of_ble_eq_true rfl) dX10_man_91 (fun r16 u H locs hw hP hD hS => ?_)
              obtain ⟨v17, f18⟩ := u
              obtain ⟨kV_v17, kF_f18, hIv17, hk0_v17, hk1_v17, hk7_v17, hk8_v17, hk9_v17, hk10_v17, hk31_v17, hk32_v17⟩ := hw
              have hM_v17 : KV [] v17 v := KV.tr kV_v17 hM_v rfl
              have hA_f18 : KF [13, 14] f18 f := KF.tr kF_f18 hA_f rfl
              have hP : va_P (dC, dI) vwCl (XW cy x0 x v17 f18) H := hP
              have hD : va_D A (XW cy x0 x v17 f18) := hD
              exact ret r16 (v17, f18) _ _ _ _ _ _ rfl ⟨hM_v17, hA_f18, hIv17, hk0_v17, hk1_v17, hk7_v17, hk8_v17, hk9_v17, hk10_v17, hk31_v17, hk32_v17⟩ hP hD hS dX10_man_94 (Nat.le_refl _) (Nat.le_refl _)
            · skip
              have zc15 : ¬ (p2.toInt = 4) := zEn rfl tc_4 c15
              refine lv_tableOut (tgt := 95) hx hb dX10_man_15 (by omega) (by decide) ?_
              refine lv_bipush (v := (-2)) hx hb dX10_man_95 rfl ?_
              exact ret (-2) (v, f) _ _ _ _ _ _ rfl ⟨hM_v, hA_f, hIv, rfl, rfl, rfl, rfl, rfl, rfl, rfl, rfl⟩ hP hD hS dX10_man_97 (Nat.le_refl _) (Nat.le_refl _)
  · skip
    subst g3
    refine lv_if_ne (tgt := 14) hx hb dX10_man_8 rfl (fun c0 => absurd (by decide) c0) (fun _ => ?_)
    refine lv_bipush (v := (-2)) hx hb dX10_man_11 rfl ?_
    exact ret (-2) (v, f) _ _ _ _ _ _ rfl ⟨hM_v, hA_f, hIv, rfl, rfl, rfl, rfl, rfl, rfl, rfl, rfl⟩ hP hD hS dX10_man_13 (Nat.le_refl _) (Nat.le_refl _)
set_option maxHeartbeats 4000000 in
set_option maxRecDepth 100000 in
theorem sX_X1_wearer_1 (l : Launch) (dC : Nat → ClassId) (dI : Nat → Nat → Nat) (cy : Nat → ClassId) (x0 : Nat) (x : Nat → Nat) (p1 : Int32) (v : Nat → Int32) (f : Nat → Nat → Int32) (hIv : XI v)  : ctI l (dC, dI) cy yX1_wearer cX1_wearer 3 .int 3 102 0 0 Unit [.ref (x 21), .int p1] (XW cy x0 x v f) (fun r u => True) (fun u => XW cy x0 x v f) := by
  refine ctI_of (by decide) (Nat.le_of_ble_eq_true rfl) (fun p e s m below meth c A ls Q hx hb hml hts hown hE hP hD hA hl ret => ?_)
  have hown : s.vm.findClass RX1 = some m.cls := hown
  have hS : va_S A s.heap s.heap [] := va_S.rf
  have hl : lv_has ls 3 [(0, .ref (x 21)), (1, .int p1)] := hl
  refine lv_iconst (v := 0) hx hb dX1_wearer_0 rfl ?_
  refine lv_istore_n (lv' := [(2, .int 0), (0, .ref (x 21)), (1, .int p1)]) hx hb dX1_wearer_1 rfl hl (Nat.le_of_ble_eq_true rfl) rfl (fun ls hl => ?_)
  have lp1 : ∀ (n1 : Nat) (l2_1 : Int32), ((0 : Int) ≤ l2_1.toInt ∧ l2_1.toInt ≤ 2147483647) → (2147483647 - l2_1.toInt).toNat < n1 → ∀ (H : Heap) (locs : List Loc) (ls : Array Slot), va_P (dC, dI) vwCl (XW cy x0 x v f) H → va_D A (XW cy x0 x v f) → va_S A s.heap H locs → lv_has ls 3 [(2, .int l2_1), (0, .ref (x 21)), (1, .int p1)] → W p l e { frames := 3, cells := 0, slots := 0, locals := 102 } s m ([.ref (x 21), .int p1] : List Value).toArray below meth c H locs 0 0 Q (F0 m 2 ls []) := by
    intro n1
    induction n1 with
    | zero => intro l2_1 hr2_1 hm; exact absurd hm (Nat.not_lt_zero _)
    | succ n1 ih1 =>
      intro l2_1 hr2_1 hm1 H locs ls hP hD hS hl
      refine lv_iload_n hx hb dX1_wearer_2 rfl (lv_at hl 0 rfl) ?_
      refine lv_aload_n hx hb dX1_wearer_3 rfl (lv_at hl 1 rfl) ?_
      refine va_get (D := (dC, dI)) (ci := 1) (v := .ref (x 26)) (C := RX1) (T := TX1) (N := 2) hx hb hts inB_1 hown hE.1 hP 22 rfl rfl 0 (Nat.le_of_ble_eq_true rfl) (hts _ k_318) (fun _ h9 => h9) rfl dX1_wearer_4 ?_
      refine va_getN (D := (dC, dI)) (ci := 7) (v := .int (v 31)) (C := RX7) (T := TX7) (N := 10) hx hb hts inB_7 hown hE.1 hP 27 rfl rfl 3 (Nat.le_of_ble_eq_true rfl) (va_Nw.use rfl (hE.2 _ k_219)) (fun _ h9 => h9) rfl dX1_wearer_7 ?_
      have b31_v : 0 ≤ (v 31).toInt ∧ (v 31).toInt ≤ 6 := Xb_31 hIv
      refine lv_icmp_ge (tgt := 30) hx hb dX1_wearer_10 rfl (fun c2 => ?_) (fun c2 => ?_)
      · skip
        refine lv_iconst (v := (-1)) hx hb dX1_wearer_30 rfl ?_
        exact ret (-1) () _ _ _ _ _ _ rfl trivial hP hD hS dX1_wearer_31 (Nat.le_refl _) (Nat.le_refl _)
      · skip
        have zc2 : ¬ ((v 31).toInt ≤ l2_1.toInt) := zMn rfl rfl c2
        refine lv_aload_n hx hb dX1_wearer_13 rfl (lv_at hl 1 rfl) ?_
        refine lv_iload_n hx hb dX1_wearer_14 rfl (lv_at hl 0 rfl) ?_
        refine cbVi (n := 1) (rest := []) hx hb hml hown hts hE hP hD hS hA (sX_X1_wears_1 l dC dI cy x0 x l2_1 v f hIv ) k_853 k_810 k_811 k_106 k_812 hd_yX1_wears ⟨Nat.le_of_ble_eq_true rfl, Nat.le_of_ble_eq_true rfl⟩ 22 1 rfl rfl (rfl) hl.1 rfl (Nat.le_of_ble_eq_true rfl) dX1_wearer_15 (fun r7 u H locs hw hP hD hS => ?_)
        refine lv_iload_n hx hb dX1_wearer_18 rfl (lv_at hl 2 rfl) ?_
        refine lv_icmp_ne (tgt := 24) hx hb dX1_wearer_19 rfl (fun c8 => ?_) (fun c8 => ?_)
        · skip
          obtain ⟨t11, et11⟩ : ∃ y : Int32, y = l2_1 + 1 := ⟨_, rfl⟩
          have zt11 : t11.toInt = l2_1.toInt + 1 := (congrArg Int32.toInt et11).trans (add_i rfl tc_1 (om_41 hr2_1) (om_193 b31_v zc2))
          refine lv_iinc (v := t11) (lv' := [(2, .int t11), (0, .ref (x 21)), (1, .int p1)]) hx hb dX1_wearer_24 hl (k := 0) rfl et11.symm (Nat.le_of_ble_eq_true rfl) rfl (fun ls hl => ?_)
          refine lv_goto (tgt := 2) hx hb dX1_wearer_27 rfl ?_
          have rg12 := fb_rng t11
          exact ih1 t11 ⟨show (0 : Int) ≤ t11.toInt from om_43 hr2_1 zt11, show t11.toInt ≤ (2147483647 : Int) from om_44 rg12⟩ (show (2147483647 - t11.toInt).toNat < n1 from om_33 hm1 zt11 rg12) _ _ _ hP hD hS (lv_sub hl [0, 1, 2] rfl)
        · skip
          refine lv_iload_n hx hb dX1_wearer_22 rfl (lv_at hl 0 rfl) ?_
          exact ret l2_1 () _ _ _ _ _ _ rfl trivial hP hD hS dX1_wearer_23 (Nat.le_refl _) (Nat.le_refl _)
  exact lp1 _ 0 ⟨by decide, by decide⟩ (Nat.lt_succ_self _) _ _ _ hP hD hS (lv_sub hl [0, 1, 2] rfl)
set_option maxHeartbeats 4000000 in
set_option maxRecDepth 100000 in
theorem sX_X10_coat_1 (l : Launch) (dC : Nat → ClassId) (dI : Nat → Nat → Nat) (cy : Nat → ClassId) (x0 : Nat) (x : Nat → Nat) (p1 : Int32) (p2 : Int32) (v : Nat → Int32) (f : Nat → Nat → Int32) (hIv : XI v)  : ctI l (dC, dI) cy yX10_coat cX10_coat 3 .int 4 124 0 0 Unit [.ref x0, .int p1, .int p2] (XW cy x0 x v f) (fun r u => True) (fun u => XW cy x0 x v f) := by
  refine ctI_of (by decide) (Nat.le_of_ble_eq_true rfl) (fun p e s m below meth c A ls Q hx hb hml hts hown hE hP hD hA hl ret => ?_)
  have hown : s.vm.findClass RX10 = some m.cls := hown
  have hS : va_S A s.heap s.heap [] := va_S.rf
  have hl : lv_has ls 3 [(0, .ref x0), (1, .int p1), (2, .int p2)] := hl
  refine lv_aload_n hx hb dX10_coat_0 rfl (lv_at hl 0 rfl) ?_
  refine va_get (D := (dC, dI)) (ci := 10) (v := .ref (x 26)) (C := RX10) (T := TX10) (N := 10) hx hb hts inB_10 hown hE.1 hP 0 rfl rfl 2 (Nat.le_of_ble_eq_true rfl) (hts _ k_493) (fun _ h9 => h9) rfl dX10_coat_1 ?_
  refine lv_iload_n hx hb dX10_coat_4 rfl (lv_at hl 1 rfl) ?_
  refine cbVi (n := 1) (rest := []) hx hb hml hown hts hE hP hD hS hA (sX_X7_hasCoat_1 0 l dC dI cy x0 x p1 v f hIv ) k_848 k_315 k_316 k_104 k_317 hd_yX7_hasCoat ⟨Nat.le_of_ble_eq_true rfl, Nat.le_of_ble_eq_true rfl⟩ 27 7 rfl rfl (rfl) hl.1 rfl (Nat.le_of_ble_eq_true rfl) dX10_coat_5 (fun r1 u H locs hw hP hD hS => ?_)
  obtain ⟨hG2, hw⟩ := hw
  rcases hw with ⟨g3, g3_0, g3_1, g3_2⟩ | ⟨g3⟩
  · skip
    subst g3
    refine lv_if_eq (tgt := 20) hx hb dX10_coat_8 rfl (fun c0 => absurd c0 (by decide)) (fun _ => ?_)
    refine lv_iload_n hx hb dX10_coat_11 rfl (lv_at hl 2 rfl) ?_
    refine lv_if_lt (tgt := 20) hx hb dX10_coat_12 rfl (fun c4 => ?_) (fun c4 => ?_)
    · skip
      refine lv_bipush (v := (-2)) hx hb dX10_coat_20 rfl ?_
      exact ret (-2) () _ _ _ _ _ _ rfl trivial hP hD hS dX10_coat_22 (Nat.le_refl _) (Nat.le_refl _)
    · skip
      refine lv_iload_n hx hb dX10_coat_15 rfl (lv_at hl 2 rfl) ?_
      refine lv_iconst (v := 5) hx hb dX10_coat_16 rfl ?_
      refine lv_icmp_le (tgt := 23) hx hb dX10_coat_17 rfl (fun c5 => ?_) (fun c5 => ?_)
      · skip
        refine lv_iload_n hx hb dX10_coat_23 rfl (lv_at hl 2 rfl) ?_
        refine lv_iconst (v := 5) hx hb dX10_coat_24 rfl ?_
        refine lv_icmp_ne (tgt := 39) hx hb dX10_coat_25 rfl (fun c6 => ?_) (fun c6 => ?_)
        · skip
          refine lv_aload_n hx hb dX10_coat_39 rfl (lv_at hl 0 rfl) ?_
          refine va_get (D := (dC, dI)) (ci := 10) (v := .ref (x 21)) (C := RX10) (T := TX10) (N := 10) hx hb hts inB_10 hown hE.1 hP 0 rfl rfl 3 (Nat.le_of_ble_eq_true rfl) (hts _ k_494) (fun _ h9 => h9) rfl dX10_coat_40 ?_
          refine lv_iload_n hx hb dX10_coat_43 rfl (lv_at hl 2 rfl) ?_
          refine lv_iload_n hx hb dX10_coat_44 rfl (lv_at hl 1 rfl) ?_
          refine cbVi (n := 2) (rest := []) hx hb hml hown hts hE hP hD hS hA (sX_X1_part_1 0 l dC dI cy x0 x p2 p1 v f hIv ) k_854 k_828 k_829 k_106 k_830 hd_yX1_part ⟨Nat.le_of_ble_eq_true rfl, Nat.le_of_ble_eq_true rfl⟩ 22 1 rfl rfl (rfl) hl.1 rfl (Nat.le_of_ble_eq_true rfl) dX10_coat_45 (fun r7 u H locs hw hP hD hS => ?_)
          have hG8 := hw
          exact ret r7 () _ _ _ _ _ _ rfl trivial hP hD hS dX10_coat_48 (Nat.le_refl _) (Nat.le_refl _)
        · skip
          refine lv_aload_n hx hb dX10_coat_28 rfl (lv_at hl 0 rfl) ?_
          refine va_get (D := (dC, dI)) (ci := 10) (v := .ref (x 21)) (C := RX10) (T := TX10) (N := 10) hx hb hts inB_10 hown hE.1 hP 0 rfl rfl 3 (Nat.le_of_ble_eq_true rfl) (hts _ k_494) (fun _ h9 => h9) rfl dX10_coat_29 ?_
          refine lv_iload_n hx hb dX10_coat_32 rfl (lv_at hl 1 rfl) ?_
          refine cbVi (n := 1) (rest := []) hx hb hml hown hts hE hP hD hS hA (sX_X1_wearer_1 l dC dI cy x0 x p1 v f hIv ) k_849 k_850 k_851 k_106 k_852 hd_yX1_wearer ⟨Nat.le_of_ble_eq_true rfl, Nat.le_of_ble_eq_true rfl⟩ 22 1 rfl rfl (rfl) hl.1 rfl (Nat.le_of_ble_eq_true rfl) dX10_coat_33 (fun r9 u H locs hw hP hD hS => ?_)
          refine lv_goto (tgt := 48) hx hb dX10_coat_36 rfl ?_
          exact ret r9 () _ _ _ _ _ _ rfl trivial hP hD hS dX10_coat_48 (Nat.le_refl _) (Nat.le_refl _)
      · skip
        refine lv_bipush (v := (-2)) hx hb dX10_coat_20 rfl ?_
        exact ret (-2) () _ _ _ _ _ _ rfl trivial hP hD hS dX10_coat_22 (Nat.le_refl _) (Nat.le_refl _)
  · skip
    subst g3
    refine lv_if_eq (tgt := 20) hx hb dX10_coat_8 rfl (fun _ => ?_) (fun c0 => absurd (by decide) c0)
    refine lv_bipush (v := (-2)) hx hb dX10_coat_20 rfl ?_
    exact ret (-2) () _ _ _ _ _ _ rfl trivial hP hD hS dX10_coat_22 (Nat.le_refl _) (Nat.le_refl _)
set_option maxHeartbeats 4000000 in
set_option maxRecDepth 100000 in
theorem sX_X1_setWears_1 (l : Launch) (dC : Nat → ClassId) (dI : Nat → Nat → Nat) (cy : Nat → ClassId) (x0 : Nat) (x : Nat → Nat) (p1 : Int32) (p2 : Int32) (v : Nat → Int32) (f : Nat → Nat → Int32) (hIv : XI v)  : ctV l (dC, dI) cy yX1_setWears cX1_setWears 3 2 81 0 0 ((Nat → Int32) × (Nat → Nat → Int32)) [.ref (x 21), .int p1, .int p2] (XW cy x0 x v f) (fun u => KV [] u.1 v ∧ KF [15] u.2 f ∧ XI u.1 ∧ u.1 0 = v 0 ∧ u.1 1 = v 1 ∧ u.1 7 = v 7 ∧ u.1 8 = v 8 ∧ u.1 9 = v 9 ∧ u.1 10 = v 10 ∧ u.1 31 = v 31 ∧ u.1 32 = v 32) (fun u => XW cy x0 x u.1 u.2) := by
  refine ctV_of (by decide) (Nat.le_of_ble_eq_true rfl) (fun p e s m below meth c A ls Q hx hb hml hts hown hnm hE hP hD hA hl ret => ?_)
  have hM_v : KV [] v v := fun _ _ => rfl
  have hA_f : KF [15] f f := fun _ _ => rfl
  have hown : s.vm.findClass RX1 = some m.cls := hown
  have hS : va_S A s.heap s.heap [] := va_S.rf
  have hl : lv_has ls 3 [(0, .ref (x 21)), (1, .int p1), (2, .int p2)] := hl
  refine lv_aload_n hx hb dX1_setWears_0 rfl (lv_at hl 0 rfl) ?_
  refine va_get (D := (dC, dI)) (ci := 1) (v := .ref (x 26)) (C := RX1) (T := TX1) (N := 2) hx hb hts inB_1 hown hE.1 hP 22 rfl rfl 0 (Nat.le_of_ble_eq_true rfl) (hts _ k_318) (fun _ h9 => h9) rfl dX1_setWears_1 ?_
  refine lv_iload_n hx hb dX1_setWears_4 rfl (lv_at hl 1 rfl) ?_
  refine cbVi (n := 1) (rest := []) hx hb hml hown hts hE hP hD hS hA (sX_X7_hasMan_1 0 l dC dI cy x0 x p1 v f hIv ) k_808 k_307 k_308 k_104 k_309 hd_yX7_hasMan ⟨Nat.le_of_ble_eq_true rfl, Nat.le_of_ble_eq_true rfl⟩ 27 7 rfl rfl (rfl) hl.1 rfl (Nat.le_of_ble_eq_true rfl) dX1_setWears_5 (fun r1 u H locs hw hP hD hS => ?_)
  obtain ⟨hG2, hw⟩ := hw
  rcases hw with ⟨g3, g3_0, g3_1, g3_2⟩ | ⟨g3⟩
  · skip
    subst g3
    refine lv_if_eq (tgt := 21) hx hb dX1_setWears_8 rfl (fun c0 => absurd c0 (by decide)) (fun _ => ?_)
    refine lv_aload_n hx hb dX1_setWears_11 rfl (lv_at hl 0 rfl) ?_
    refine va_get (D := (dC, dI)) (ci := 1) (v := .ref (x 22)) (C := RX1) (T := TX1) (N := 2) hx hb hts inB_1 hown hE.1 hP 22 rfl rfl 1 (Nat.le_of_ble_eq_true rfl) (hts _ k_319) (fun _ h9 => h9) rfl dX1_setWears_12 ?_
    refine lv_bipush (v := 6) hx hb dX1_setWears_15 rfl ?_
    refine lv_iload_n hx hb dX1_setWears_17 rfl (lv_at hl 1 rfl) ?_
    refine lv_iadd hx hb dX1_setWears_18 ?_
    refine lv_topi (fun t4 et4 => ?_)
    have zt4 : t4.toInt = 6 + p1.toInt := (congrArg Int32.toInt et4).trans (add_i tc_6 rfl (om_189 g3_0) (om_190 g3_2))
    refine lv_iload_n hx hb dX1_setWears_19 rfl (lv_at hl 2 rfl) ?_
    refine stI hx hb hE hP hD hS 23 rfl (vpI (k := 44) rfl (show 0 ≤ t4.toInt from om_191 g3_0 zt4) (show t4.toInt < 44 from om_192 g3_2 zt4)) rfl dX1_setWears_20 (fun H locs hP hD hS => ?_)
    obtain ⟨f6, ef6, hP, hD⟩ : ∃ fz9, fz9 = upd2 f 15 (upd (f 15) t4.toNatClampNeg p2) ∧ va_P (dC, dI) vwCl (XW cy x0 x v fz9) H ∧ va_D A (XW cy x0 x v fz9) := ⟨_, rfl, hP, hD⟩
    have hA_f6 : KF [15] f6 f := by rw [ef6]; exact KF.up hA_f rfl
    exact ret (v, f6) _ _ _ _ _ _ ⟨hM_v, hA_f6, hIv, rfl, rfl, rfl, rfl, rfl, rfl, rfl, rfl⟩ hP hD hS dX1_setWears_21 (Nat.le_refl _) (Nat.le_refl _)
  · skip
    subst g3
    refine lv_if_eq (tgt := 21) hx hb dX1_setWears_8 rfl (fun _ => ?_) (fun c0 => absurd (by decide) c0)
    exact ret (v, f) _ _ _ _ _ _ ⟨hM_v, hA_f, hIv, rfl, rfl, rfl, rfl, rfl, rfl, rfl, rfl⟩ hP hD hS dX1_setWears_21 (Nat.le_refl _) (Nat.le_refl _)
set_option maxHeartbeats 4000000 in
set_option maxRecDepth 100000 in
theorem sX_X1_setPart_1 (l : Launch) (dC : Nat → ClassId) (dI : Nat → Nat → Nat) (cy : Nat → ClassId) (x0 : Nat) (x : Nat → Nat) (p1 : Int32) (p2 : Int32) (p3 : Int32) (v : Nat → Int32) (f : Nat → Nat → Int32) (hIv : XI v)  : ctV l (dC, dI) cy yX1_setPart cX1_setPart 4 2 81 0 0 ((Nat → Int32) × (Nat → Nat → Int32)) [.ref (x 21), .int p1, .int p2, .int p3] (XW cy x0 x v f) (fun u => KV [] u.1 v ∧ KF [15] u.2 f ∧ XI u.1 ∧ u.1 0 = v 0 ∧ u.1 1 = v 1 ∧ u.1 7 = v 7 ∧ u.1 8 = v 8 ∧ u.1 9 = v 9 ∧ u.1 10 = v 10 ∧ u.1 31 = v 31 ∧ u.1 32 = v 32) (fun u => XW cy x0 x u.1 u.2) := by
  refine ctV_of (by decide) (Nat.le_of_ble_eq_true rfl) (fun p e s m below meth c A ls Q hx hb hml hts hown hnm hE hP hD hA hl ret => ?_)
  have hM_v : KV [] v v := fun _ _ => rfl
  have hA_f : KF [15] f f := fun _ _ => rfl
  have hown : s.vm.findClass RX1 = some m.cls := hown
  have hS : va_S A s.heap s.heap [] := va_S.rf
  have hl : lv_has ls 4 [(0, .ref (x 21)), (1, .int p1), (2, .int p2), (3, .int p3)] := hl
  refine lv_aload_n hx hb dX1_setPart_0 rfl (lv_at hl 0 rfl) ?_
  refine va_get (D := (dC, dI)) (ci := 1) (v := .ref (x 26)) (C := RX1) (T := TX1) (N := 2) hx hb hts inB_1 hown hE.1 hP 22 rfl rfl 0 (Nat.le_of_ble_eq_true rfl) (hts _ k_318) (fun _ h9 => h9) rfl dX1_setPart_1 ?_
  refine lv_iload_n hx hb dX1_setPart_4 rfl (lv_at hl 2 rfl) ?_
  refine cbVi (n := 1) (rest := []) hx hb hml hown hts hE hP hD hS hA (sX_X7_hasCoat_1 0 l dC dI cy x0 x p2 v f hIv ) k_821 k_315 k_316 k_104 k_317 hd_yX7_hasCoat ⟨Nat.le_of_ble_eq_true rfl, Nat.le_of_ble_eq_true rfl⟩ 27 7 rfl rfl (rfl) hl.1 rfl (Nat.le_of_ble_eq_true rfl) dX1_setPart_5 (fun r1 u H locs hw hP hD hS => ?_)
  obtain ⟨hG2, hw⟩ := hw
  rcases hw with ⟨g3, g3_0, g3_1, g3_2⟩ | ⟨g3⟩
  · skip
    subst g3
    refine lv_if_eq (tgt := 35) hx hb dX1_setPart_8 rfl (fun c0 => absurd c0 (by decide)) (fun _ => ?_)
    refine lv_iload_n hx hb dX1_setPart_11 rfl (lv_at hl 1 rfl) ?_
    refine lv_if_lt (tgt := 35) hx hb dX1_setPart_12 rfl (fun c4 => ?_) (fun c4 => ?_)
    · skip
      exact ret (v, f) _ _ _ _ _ _ ⟨hM_v, hA_f, hIv, rfl, rfl, rfl, rfl, rfl, rfl, rfl, rfl⟩ hP hD hS dX1_setPart_35 (Nat.le_refl _) (Nat.le_refl _)
    · skip
      have zc4 : ¬ (p1.toInt < 0) := zLn rfl tc_0 c4
      refine lv_iload_n hx hb dX1_setPart_15 rfl (lv_at hl 1 rfl) ?_
      refine lv_iconst (v := 5) hx hb dX1_setPart_16 rfl ?_
      refine lv_icmp_ge (tgt := 35) hx hb dX1_setPart_17 rfl (fun c5 => ?_) (fun c5 => ?_)
      · skip
        exact ret (v, f) _ _ _ _ _ _ ⟨hM_v, hA_f, hIv, rfl, rfl, rfl, rfl, rfl, rfl, rfl, rfl⟩ hP hD hS dX1_setPart_35 (Nat.le_refl _) (Nat.le_refl _)
      · skip
        have zc5 : ¬ (5 ≤ p1.toInt) := zMn tc_5 rfl c5
        refine lv_aload_n hx hb dX1_setPart_20 rfl (lv_at hl 0 rfl) ?_
        refine va_get (D := (dC, dI)) (ci := 1) (v := .ref (x 22)) (C := RX1) (T := TX1) (N := 2) hx hb hts inB_1 hown hE.1 hP 22 rfl rfl 1 (Nat.le_of_ble_eq_true rfl) (hts _ k_319) (fun _ h9 => h9) rfl dX1_setPart_21 ?_
        refine lv_bipush (v := 12) hx hb dX1_setPart_24 rfl ?_
        refine lv_iload_n hx hb dX1_setPart_26 rfl (lv_at hl 1 rfl) ?_
        refine lv_bipush (v := 6) hx hb dX1_setPart_27 rfl ?_
        refine lv_imul hx hb dX1_setPart_29 ?_
        refine lv_topi (fun t6 et6 => ?_)
        have zt6 : t6.toInt = p1.toInt * 6 := (congrArg Int32.toInt et6).trans (mul_i rfl tc_6 (om_101 zc4) (om_111 zc5))
        refine lv_iadd hx hb dX1_setPart_30 ?_
        refine lv_topi (fun t8 et8 => ?_)
        have rg9 := fb_rng t6
        have zt8 : t8.toInt = 12 + t6.toInt := (congrArg Int32.toInt et8).trans (add_i tc_12 rfl (om_112 rg9) (om_113 zc5 zt6))
        refine lv_iload_n hx hb dX1_setPart_31 rfl (lv_at hl 2 rfl) ?_
        refine lv_iadd hx hb dX1_setPart_32 ?_
        refine lv_topi (fun t10 et10 => ?_)
        have rg11 := fb_rng t8
        have zt10 : t10.toInt = t8.toInt + p2.toInt := (congrArg Int32.toInt et10).trans (add_i rfl rfl (om_103 g3_0 rg11) (om_144 g3_2 zc5 zt6 zt8))
        refine lv_iload_n hx hb dX1_setPart_33 rfl (lv_at hl 3 rfl) ?_
        refine stI hx hb hE hP hD hS 23 rfl (vpI (k := 44) rfl (show 0 ≤ t10.toInt from om_145 g3_0 zc4 zt6 zt8 zt10) (show t10.toInt < 44 from om_146 g3_2 zc5 zt6 zt8 zt10)) rfl dX1_setPart_34 (fun H locs hP hD hS => ?_)
        obtain ⟨f13, ef13, hP, hD⟩ : ∃ fz9, fz9 = upd2 f 15 (upd (f 15) t10.toNatClampNeg p3) ∧ va_P (dC, dI) vwCl (XW cy x0 x v fz9) H ∧ va_D A (XW cy x0 x v fz9) := ⟨_, rfl, hP, hD⟩
        have hA_f13 : KF [15] f13 f := by rw [ef13]; exact KF.up hA_f rfl
        exact ret (v, f13) _ _ _ _ _ _ ⟨hM_v, hA_f13, hIv, rfl, rfl, rfl, rfl, rfl, rfl, rfl, rfl⟩ hP hD hS dX1_setPart_35 (Nat.le_refl _) (Nat.le_refl _)
  · skip
    subst g3
    refine lv_if_eq (tgt := 35) hx hb dX1_setPart_8 rfl (fun _ => ?_) (fun c0 => absurd (by decide) c0)
    exact ret (v, f) _ _ _ _ _ _ ⟨hM_v, hA_f, hIv, rfl, rfl, rfl, rfl, rfl, rfl, rfl, rfl⟩ hP hD hS dX1_setPart_35 (Nat.le_refl _) (Nat.le_refl _)
set_option maxHeartbeats 4000000 in
set_option maxRecDepth 100000 in
theorem sX_X1_weather_1 (l : Launch) (dC : Nat → ClassId) (dI : Nat → Nat → Nat) (cy : Nat → ClassId) (x0 : Nat) (x : Nat → Nat) (p1 : Int32) (p2 : Int32) (v : Nat → Int32) (f : Nat → Nat → Int32) (hIv : XI v)  : ctV l (dC, dI) cy yX1_weather cX1_weather 3 3 104 0 0 ((Nat → Int32) × (Nat → Nat → Int32)) [.ref (x 21), .int p1, .int p2] (XW cy x0 x v f) (fun u => KV [] u.1 v ∧ KF [15] u.2 f ∧ XI u.1 ∧ u.1 0 = v 0 ∧ u.1 1 = v 1 ∧ u.1 7 = v 7 ∧ u.1 8 = v 8 ∧ u.1 9 = v 9 ∧ u.1 10 = v 10 ∧ u.1 31 = v 31 ∧ u.1 32 = v 32) (fun u => XW cy x0 x u.1 u.2) := by
  refine ctV_of (by decide) (Nat.le_of_ble_eq_true rfl) (fun p e s m below meth c A ls Q hx hb hml hts hown hnm hE hP hD hA hl ret => ?_)
  have hM_v : KV [] v v := fun _ _ => rfl
  have hA_f : KF [15] f f := fun _ _ => rfl
  have hown : s.vm.findClass RX1 = some m.cls := hown
  have hS : va_S A s.heap s.heap [] := va_S.rf
  have hl : lv_has ls 3 [(0, .ref (x 21)), (1, .int p1), (2, .int p2)] := hl
  refine lv_aload_n hx hb dX1_weather_0 rfl (lv_at hl 0 rfl) ?_
  refine lv_iconst (v := 3) hx hb dX1_weather_1 rfl ?_
  refine lv_iload_n hx hb dX1_weather_2 rfl (lv_at hl 1 rfl) ?_
  refine lv_bipush (v := 99) hx hb dX1_weather_3 rfl ?_
  refine lv_aload_n hx hb dX1_weather_5 rfl (lv_at hl 0 rfl) ?_
  refine lv_iconst (v := 3) hx hb dX1_weather_6 rfl ?_
  refine lv_iload_n hx hb dX1_weather_7 rfl (lv_at hl 1 rfl) ?_
  refine cbVi (n := 2) (rest := [.int 99, .int p1, .int 3, .ref (x 21)]) hx hb hml hown hts hE hP hD hS hA (sX_X1_part_1 0 l dC dI cy x0 x 3 p1 v f hIv ) k_827 k_828 k_829 k_106 k_830 hd_yX1_part ⟨Nat.le_of_ble_eq_true rfl, Nat.le_of_ble_eq_true rfl⟩ 22 1 rfl rfl (rfl) hl.1 rfl (Nat.le_of_ble_eq_true rfl) dX1_weather_8 (fun r1 u H locs hw hP hD hS => ?_)
  have hG2 := hw
  refine lv_iconst (v := 1) hx hb dX1_weather_11 rfl ?_
  refine lv_iadd hx hb dX1_weather_12 ?_
  refine lv_topi (fun t3 et3 => ?_)
  refine va_mmin hx hb (by rw [hml]; exact hl.1.symm) hown (hts _ k_869) (hts _ k_643) (hts _ k_119) (hts _ k_644) (Nat.le_of_ble_eq_true rfl) (Nat.le_of_ble_eq_true rfl) (Nat.le_of_ble_eq_true rfl) (Nat.le_of_ble_eq_true rfl) dX1_weather_13 ?_
  refine lv_topi (fun t4 et4 => ?_)
  have zt4 : t4.toInt = min (99) (t3.toInt) := by rw [et4]; exact mmin_i (by decide) rfl
  refine cbVv (n := 3) (rest := []) hx hb hml hown hts hE hP hD hS hA (sX_X1_setPart_1 l dC dI cy x0 x 3 p1 t4 v f hIv ) k_874 k_875 k_876 k_106 k_877 hd_yX1_setPart ⟨Nat.le_of_ble_eq_true rfl, Nat.le_of_ble_eq_true rfl⟩ 22 1 rfl rfl (rfl) hl.1 rfl (Nat.le_of_ble_eq_true rfl) dX1_weather_16 (fun u H locs hw hP hD hS => ?_)
  obtain ⟨v5, f6⟩ := u
  obtain ⟨kV_v5, kF_f6, hIv5, hk0_v5, hk1_v5, hk7_v5, hk8_v5, hk9_v5, hk10_v5, hk31_v5, hk32_v5⟩ := hw
  have hM_v5 : KV [] v5 v := KV.tr kV_v5 hM_v rfl
  have hA_f6 : KF [15] f6 f := KF.tr kF_f6 hA_f rfl
  have hP : va_P (dC, dI) vwCl (XW cy x0 x v5 f6) H := hP
  have hD : va_D A (XW cy x0 x v5 f6) := hD
  have hq0_v5 : v5 0 = (v 0) := hk0_v5
  have hq1_v5 : v5 1 = (v 1) := hk1_v5
  have hq7_v5 : v5 7 = (v 7) := hk7_v5
  have hq8_v5 : v5 8 = (v 8) := hk8_v5
  have hq9_v5 : v5 9 = (v 9) := hk9_v5
  have hq10_v5 : v5 10 = (v 10) := hk10_v5
  have hq31_v5 : v5 31 = (v 31) := hk31_v5
  have hq32_v5 : v5 32 = (v 32) := hk32_v5
  refine lv_aload_n hx hb dX1_weather_19 rfl (lv_at hl 0 rfl) ?_
  refine lv_iconst (v := 1) hx hb dX1_weather_20 rfl ?_
  refine lv_iload_n hx hb dX1_weather_21 rfl (lv_at hl 1 rfl) ?_
  refine lv_iconst (v := 0) hx hb dX1_weather_22 rfl ?_
  refine lv_aload_n hx hb dX1_weather_23 rfl (lv_at hl 0 rfl) ?_
  refine lv_iconst (v := 1) hx hb dX1_weather_24 rfl ?_
  refine lv_iload_n hx hb dX1_weather_25 rfl (lv_at hl 1 rfl) ?_
  refine cbVi (n := 2) (rest := [.int 0, .int p1, .int 1, .ref (x 21)]) hx hb hml hown hts hE hP hD hS hA (sX_X1_part_1 0 l dC dI cy x0 x 1 p1 v5 f6 hIv5 ) k_827 k_828 k_829 k_106 k_830 hd_yX1_part ⟨Nat.le_of_ble_eq_true rfl, Nat.le_of_ble_eq_true rfl⟩ 22 1 rfl rfl (rfl) hl.1 rfl (Nat.le_of_ble_eq_true rfl) dX1_weather_26 (fun r7 u H locs hw hP hD hS => ?_)
  have hG8 := hw
  refine lv_iload_n hx hb dX1_weather_29 rfl (lv_at hl 2 rfl) ?_
  refine lv_isub hx hb dX1_weather_30 ?_
  refine lv_topi (fun t9 et9 => ?_)
  refine va_mmax hx hb (by rw [hml]; exact hl.1.symm) hown (hts _ k_878) (hts _ k_640) (hts _ k_119) (hts _ k_641) (Nat.le_of_ble_eq_true rfl) (Nat.le_of_ble_eq_true rfl) (Nat.le_of_ble_eq_true rfl) (Nat.le_of_ble_eq_true rfl) dX1_weather_31 ?_
  refine lv_topi (fun t10 et10 => ?_)
  have zt10 : t10.toInt = max (0) (t9.toInt) := by rw [et10]; exact mmax_i (by decide) rfl
  refine cbVv (n := 3) (rest := []) hx hb hml hown hts hE hP hD hS hA (sX_X1_setPart_1 l dC dI cy x0 x 1 p1 t10 v5 f6 hIv5 ) k_874 k_875 k_876 k_106 k_877 hd_yX1_setPart ⟨Nat.le_of_ble_eq_true rfl, Nat.le_of_ble_eq_true rfl⟩ 22 1 rfl rfl (rfl) hl.1 rfl (Nat.le_of_ble_eq_true rfl) dX1_weather_34 (fun u H locs hw hP hD hS => ?_)
  obtain ⟨v11, f12⟩ := u
  obtain ⟨kV_v11, kF_f12, hIv11, hk0_v11, hk1_v11, hk7_v11, hk8_v11, hk9_v11, hk10_v11, hk31_v11, hk32_v11⟩ := hw
  have hM_v11 : KV [] v11 v := KV.tr kV_v11 hM_v5 rfl
  have hA_f12 : KF [15] f12 f := KF.tr kF_f12 hA_f6 rfl
  have hP : va_P (dC, dI) vwCl (XW cy x0 x v11 f12) H := hP
  have hD : va_D A (XW cy x0 x v11 f12) := hD
  have hq0_v11 : v11 0 = (v 0) := hk0_v11.trans hq0_v5
  have hq1_v11 : v11 1 = (v 1) := hk1_v11.trans hq1_v5
  have hq7_v11 : v11 7 = (v 7) := hk7_v11.trans hq7_v5
  have hq8_v11 : v11 8 = (v 8) := hk8_v11.trans hq8_v5
  have hq9_v11 : v11 9 = (v 9) := hk9_v11.trans hq9_v5
  have hq10_v11 : v11 10 = (v 10) := hk10_v11.trans hq10_v5
  have hq31_v11 : v11 31 = (v 31) := hk31_v11.trans hq31_v5
  have hq32_v11 : v11 32 = (v 32) := hk32_v11.trans hq32_v5
  refine lv_aload_n hx hb dX1_weather_37 rfl (lv_at hl 0 rfl) ?_
  refine lv_iconst (v := 0) hx hb dX1_weather_38 rfl ?_
  refine lv_iload_n hx hb dX1_weather_39 rfl (lv_at hl 1 rfl) ?_
  refine lv_iconst (v := 0) hx hb dX1_weather_40 rfl ?_
  refine lv_aload_n hx hb dX1_weather_41 rfl (lv_at hl 0 rfl) ?_
  refine lv_iconst (v := 0) hx hb dX1_weather_42 rfl ?_
  refine lv_iload_n hx hb dX1_weather_43 rfl (lv_at hl 1 rfl) ?_
  refine cbVi (n := 2) (rest := [.int 0, .int p1, .int 0, .ref (x 21)]) hx hb hml hown hts hE hP hD hS hA (sX_X1_part_1 0 l dC dI cy x0 x 0 p1 v11 f12 hIv11 ) k_827 k_828 k_829 k_106 k_830 hd_yX1_part ⟨Nat.le_of_ble_eq_true rfl, Nat.le_of_ble_eq_true rfl⟩ 22 1 rfl rfl (rfl) hl.1 rfl (Nat.le_of_ble_eq_true rfl) dX1_weather_44 (fun r13 u H locs hw hP hD hS => ?_)
  have hG14 := hw
  refine lv_iload_n hx hb dX1_weather_47 rfl (lv_at hl 2 rfl) ?_
  refine lv_isub hx hb dX1_weather_48 ?_
  refine lv_topi (fun t15 et15 => ?_)
  refine va_mmax hx hb (by rw [hml]; exact hl.1.symm) hown (hts _ k_878) (hts _ k_640) (hts _ k_119) (hts _ k_641) (Nat.le_of_ble_eq_true rfl) (Nat.le_of_ble_eq_true rfl) (Nat.le_of_ble_eq_true rfl) (Nat.le_of_ble_eq_true rfl) dX1_weather_49 ?_
  refine lv_topi (fun t16 et16 => ?_)
  have zt16 : t16.toInt = max (0) (t15.toInt) := by rw [et16]; exact mmax_i (by decide) rfl
  refine cbVv (n := 3) (rest := []) hx hb hml hown hts hE hP hD hS hA (sX_X1_setPart_1 l dC dI cy x0 x 0 p1 t16 v11 f12 hIv11 ) k_874 k_875 k_876 k_106 k_877 hd_yX1_setPart ⟨Nat.le_of_ble_eq_true rfl, Nat.le_of_ble_eq_true rfl⟩ 22 1 rfl rfl (rfl) hl.1 rfl (Nat.le_of_ble_eq_true rfl) dX1_weather_52 (fun u H locs hw hP hD hS => ?_)
  obtain ⟨v17, f18⟩ := u
  obtain ⟨kV_v17, kF_f18, hIv17, hk0_v17, hk1_v17, hk7_v17, hk8_v17, hk9_v17, hk10_v17, hk31_v17, hk32_v17⟩ := hw
  have hM_v17 : KV [] v17 v := KV.tr kV_v17 hM_v11 rfl
  have hA_f18 : KF [15] f18 f := KF.tr kF_f18 hA_f12 rfl
  have hP : va_P (dC, dI) vwCl (XW cy x0 x v17 f18) H := hP
  have hD : va_D A (XW cy x0 x v17 f18) := hD
  have hq0_v17 : v17 0 = (v 0) := hk0_v17.trans hq0_v11
  have hq1_v17 : v17 1 = (v 1) := hk1_v17.trans hq1_v11
  have hq7_v17 : v17 7 = (v 7) := hk7_v17.trans hq7_v11
  have hq8_v17 : v17 8 = (v 8) := hk8_v17.trans hq8_v11
  have hq9_v17 : v17 9 = (v 9) := hk9_v17.trans hq9_v11
  have hq10_v17 : v17 10 = (v 10) := hk10_v17.trans hq10_v11
  have hq31_v17 : v17 31 = (v 31) := hk31_v17.trans hq31_v11
  have hq32_v17 : v17 32 = (v 32) := hk32_v17.trans hq32_v11
  exact ret (v17, f18) _ _ _ _ _ _ ⟨hM_v17, hA_f18, hIv17, (hk0_v17.trans (hk0_v11.trans hk0_v5)), (hk1_v17.trans (hk1_v11.trans hk1_v5)), (hk7_v17.trans (hk7_v11.trans hk7_v5)), (hk8_v17.trans (hk8_v11.trans hk8_v5)), (hk9_v17.trans (hk9_v11.trans hk9_v5)), (hk10_v17.trans (hk10_v11.trans hk10_v5)), (hk31_v17.trans (hk31_v11.trans hk31_v5)), (hk32_v17.trans (hk32_v11.trans hk32_v5))⟩ hP hD hS dX1_weather_55 (Nat.le_refl _) (Nat.le_refl _)
set_option maxHeartbeats 4000000 in
set_option maxRecDepth 100000 in
theorem sX_X1_passDay_1 (l : Launch) (dC : Nat → ClassId) (dI : Nat → Nat → Nat) (cy : Nat → ClassId) (x0 : Nat) (x : Nat → Nat) (p1 : Int32) (v : Nat → Int32) (f : Nat → Nat → Int32) (hIv : XI v)  : ctI l (dC, dI) cy yX1_passDay cX1_passDay 5 .int 5 155 0 0 ((Nat → Int32) × (Nat → Nat → Int32)) [.ref (x 21), .int p1] (XW cy x0 x v f) (fun r u => KV [] u.1 v ∧ KF [13, 14, 15] u.2 f ∧ XI u.1 ∧ u.1 0 = v 0 ∧ u.1 1 = v 1 ∧ u.1 7 = v 7 ∧ u.1 8 = v 8 ∧ u.1 9 = v 9 ∧ u.1 10 = v 10 ∧ u.1 31 = v 31 ∧ u.1 32 = v 32) (fun u => XW cy x0 x u.1 u.2) := by
  refine ctI_of (by decide) (Nat.le_of_ble_eq_true rfl) (fun p e s m below meth c A ls Q hx hb hml hts hown hE hP hD hA hl ret => ?_)
  have hM_v : KV [] v v := fun _ _ => rfl
  have hA_f : KF [13, 14, 15] f f := fun _ _ => rfl
  have hown : s.vm.findClass RX1 = some m.cls := hown
  have hS : va_S A s.heap s.heap [] := va_S.rf
  have hl : lv_has ls 5 [(0, .ref (x 21)), (1, .int p1)] := hl
  refine lv_iconst (v := 0) hx hb dX1_passDay_0 rfl ?_
  refine lv_istore_n (lv' := [(2, .int 0), (0, .ref (x 21)), (1, .int p1)]) hx hb dX1_passDay_1 rfl hl (Nat.le_of_ble_eq_true rfl) rfl (fun ls hl => ?_)
  have lp1 : ∀ (n1 : Nat) (l2_1 : Int32) (v1 : Nat → Int32) (f1 : Nat → Nat → Int32), XI v1 → v1 0 = (v 0) → v1 1 = (v 1) → v1 7 = (v 7) → v1 8 = (v 8) → v1 9 = (v 9) → v1 10 = (v 10) → v1 31 = (v 31) → v1 32 = (v 32) → ((0 : Int) ≤ l2_1.toInt ∧ l2_1.toInt ≤ 2147483647) → KV [] v1 v → KF [13, 14, 15] f1 f → (2147483647 - l2_1.toInt).toNat < n1 → ∀ (H : Heap) (locs : List Loc) (ls : Array Slot), va_P (dC, dI) vwCl (XW cy x0 x v1 f1) H → va_D A (XW cy x0 x v1 f1) → va_S A s.heap H locs → lv_has ls 5 [(2, .int l2_1), (0, .ref (x 21)), (1, .int p1)] → W p l e { frames := 5, cells := 0, slots := 0, locals := 155 } s m ([.ref (x 21), .int p1] : List Value).toArray below meth c H locs 0 0 Q (F0 m 2 ls []) := by
    intro n1
    induction n1 with
    | zero => intro l2_1 v1 f1 hIv1 hq0_v1 hq1_v1 hq7_v1 hq8_v1 hq9_v1 hq10_v1 hq31_v1 hq32_v1 hr2_1 hM_v1 hA_f1 hm; exact absurd hm (Nat.not_lt_zero _)
    | succ n1 ih1 =>
      intro l2_1 v1 f1 hIv1 hq0_v1 hq1_v1 hq7_v1 hq8_v1 hq9_v1 hq10_v1 hq31_v1 hq32_v1 hr2_1 hM_v1 hA_f1 hm1 H locs ls hP hD hS hl
      refine lv_iload_n hx hb dX1_passDay_2 rfl (lv_at hl 0 rfl) ?_
      refine lv_aload_n hx hb dX1_passDay_3 rfl (lv_at hl 1 rfl) ?_
      refine va_get (D := (dC, dI)) (ci := 1) (v := .ref (x 26)) (C := RX1) (T := TX1) (N := 2) hx hb hts inB_1 hown hE.1 hP 22 rfl rfl 0 (Nat.le_of_ble_eq_true rfl) (hts _ k_318) (fun _ h9 => h9) rfl dX1_passDay_4 ?_
      refine va_getN (D := (dC, dI)) (ci := 7) (v := .int (v1 31)) (C := RX7) (T := TX7) (N := 10) hx hb hts inB_7 hown hE.1 hP 27 rfl rfl 3 (Nat.le_of_ble_eq_true rfl) (va_Nw.use rfl (hE.2 _ k_219)) (fun _ h9 => h9) rfl dX1_passDay_7 ?_
      refine tI (y := (v 31)) hq31_v1 ?_
      have b31_v : 0 ≤ (v 31).toInt ∧ (v 31).toInt ≤ 6 := Xb_31 hIv
      refine lv_icmp_ge (tgt := 46) hx hb dX1_passDay_10 rfl (fun c2 => ?_) (fun c2 => ?_)
      · skip
        refine lv_aload_n hx hb dX1_passDay_46 rfl (lv_at hl 1 rfl) ?_
        refine va_get (D := (dC, dI)) (ci := 1) (v := .ref (x 22)) (C := RX1) (T := TX1) (N := 2) hx hb hts inB_1 hown hE.1 hP 22 rfl rfl 1 (Nat.le_of_ble_eq_true rfl) (hts _ k_319) (fun _ h9 => h9) rfl dX1_passDay_47 ?_
        refine lv_bipush (v := 43) hx hb dX1_passDay_50 rfl ?_
        refine lv_aload_n hx hb dX1_passDay_52 rfl (lv_at hl 1 rfl) ?_
        refine va_get (D := (dC, dI)) (ci := 1) (v := .ref (x 22)) (C := RX1) (T := TX1) (N := 2) hx hb hts inB_1 hown hE.1 hP 22 rfl rfl 1 (Nat.le_of_ble_eq_true rfl) (hts _ k_319) (fun _ h9 => h9) rfl dX1_passDay_53 ?_
        refine lv_bipush (v := 43) hx hb dX1_passDay_56 rfl ?_
        refine ldI hx hb hE hP 23 rfl (vp_in_nI (n := 43) (by decide) (by decide)) rfl rfl dX1_passDay_58 ?_
        refine lv_topi (fun t5 et5 => ?_)
        refine lv_sipush (v := 137) hx hb dX1_passDay_59 rfl ?_
        refine lv_imul hx hb dX1_passDay_62 ?_
        refine lv_topi (fun t6 et6 => ?_)
        refine lv_bipush (v := 71) hx hb dX1_passDay_63 rfl ?_
        refine lv_iadd hx hb dX1_passDay_65 ?_
        refine lv_topi (fun t7 et7 => ?_)
        refine lv_sipush (v := 1000) hx hb dX1_passDay_66 rfl ?_
        refine lv_irem hx hb dX1_passDay_69 (by decide) ?_
        refine lv_topi (fun t8 et8 => ?_)
        refine stI hx hb hE hP hD hS 23 rfl (vp_in_nI (n := 43) (by decide) (by decide)) rfl dX1_passDay_70 (fun H locs hP hD hS => ?_)
        obtain ⟨f9, ef9, hP, hD⟩ : ∃ fz9, fz9 = upd2 f1 15 (upd (f1 15) (43 : Int32).toNatClampNeg t8) ∧ va_P (dC, dI) vwCl (XW cy x0 x v1 fz9) H ∧ va_D A (XW cy x0 x v1 fz9) := ⟨_, rfl, hP, hD⟩
        have hA_f9 : KF [13, 14, 15] f9 f := by rw [ef9]; exact KF.up hA_f1 rfl
        refine lv_aload_n hx hb dX1_passDay_71 rfl (lv_at hl 1 rfl) ?_
        refine va_get (D := (dC, dI)) (ci := 1) (v := .ref (x 22)) (C := RX1) (T := TX1) (N := 2) hx hb hts inB_1 hown hE.1 hP 22 rfl rfl 1 (Nat.le_of_ble_eq_true rfl) (hts _ k_319) (fun _ h9 => h9) rfl dX1_passDay_72 ?_
        refine lv_bipush (v := 43) hx hb dX1_passDay_75 rfl ?_
        refine ldI hx hb hE hP 23 rfl (vp_in_nI (n := 43) (by decide) (by decide)) rfl rfl dX1_passDay_77 ?_
        refine lv_topi (fun t10 et10 => ?_)
        refine lv_bipush (v := 100) hx hb dX1_passDay_78 rfl ?_
        refine lv_irem hx hb dX1_passDay_80 (by decide) ?_
        refine lv_topi (fun t11 et11 => ?_)
        refine lv_iload_n hx hb dX1_passDay_81 rfl (lv_at hl 2 rfl) ?_
        refine lv_icmp_ge (tgt := 89) hx hb dX1_passDay_82 rfl (fun c12 => ?_) (fun c12 => ?_)
        · skip
          refine lv_iconst (v := 0) hx hb dX1_passDay_89 rfl ?_
          refine lv_istore_n (lv' := [(2, .int 0), (0, .ref (x 21)), (1, .int p1)]) hx hb dX1_passDay_90 rfl hl (Nat.le_of_ble_eq_true rfl) rfl (fun ls hl => ?_)
          refine lv_iconst (v := 0) hx hb dX1_passDay_91 rfl ?_
          refine lv_istore_n (lv' := [(3, .int 0), (2, .int 0), (0, .ref (x 21)), (1, .int p1)]) hx hb dX1_passDay_92 rfl hl (Nat.le_of_ble_eq_true rfl) rfl (fun ls hl => ?_)
          have lp15 : ∀ (n15 : Nat) (l3_15 : Int32) (v15 : Nat → Int32) (f15 : Nat → Nat → Int32), XI v15 → v15 0 = (v 0) → v15 1 = (v 1) → v15 7 = (v 7) → v15 8 = (v 8) → v15 9 = (v 9) → v15 10 = (v 10) → v15 31 = (v 31) → v15 32 = (v 32) → ((0 : Int) ≤ l3_15.toInt ∧ l3_15.toInt ≤ 2147483647) → KV [] v15 v → KF [13, 14, 15] f15 f → (2147483647 - l3_15.toInt).toNat < n15 → ∀ (H : Heap) (locs : List Loc) (ls : Array Slot), va_P (dC, dI) vwCl (XW cy x0 x v15 f15) H → va_D A (XW cy x0 x v15 f15) → va_S A s.heap H locs → lv_has ls 5 [(3, .int l3_15), (2, .int 0), (0, .ref (x 21)), (1, .int p1)] → W p l e { frames := 5, cells := 0, slots := 0, locals := 155 } s m ([.ref (x 21), .int p1] : List Value).toArray below meth c H locs 0 0 Q (F0 m 93 ls []) := by
            intro n15
            induction n15 with
            | zero => intro l3_15 v15 f15 hIv15 hq0_v15 hq1_v15 hq7_v15 hq8_v15 hq9_v15 hq10_v15 hq31_v15 hq32_v15 hr3_15 hM_v15 hA_f15 hm; exact absurd hm (Nat.not_lt_zero _)
            | succ n15 ih15 =>
              intro l3_15 v15 f15 hIv15 hq0_v15 hq1_v15 hq7_v15 hq8_v15 hq9_v15 hq10_v15 hq31_v15 hq32_v15 hr3_15 hM_v15 hA_f15 hm15 H locs ls hP hD hS hl
              refine lv_iload_n hx hb dX1_passDay_93 rfl (lv_at hl 0 rfl) ?_
              refine lv_aload_n hx hb dX1_passDay_94 rfl (lv_at hl 2 rfl) ?_
              refine va_get (D := (dC, dI)) (ci := 1) (v := .ref (x 26)) (C := RX1) (T := TX1) (N := 2) hx hb hts inB_1 hown hE.1 hP 22 rfl rfl 0 (Nat.le_of_ble_eq_true rfl) (hts _ k_318) (fun _ h9 => h9) rfl dX1_passDay_95 ?_
              refine va_getN (D := (dC, dI)) (ci := 7) (v := .int (v15 31)) (C := RX7) (T := TX7) (N := 10) hx hb hts inB_7 hown hE.1 hP 27 rfl rfl 3 (Nat.le_of_ble_eq_true rfl) (va_Nw.use rfl (hE.2 _ k_219)) (fun _ h9 => h9) rfl dX1_passDay_98 ?_
              refine tI (y := (v 31)) hq31_v15 ?_
              have b31_v : 0 ≤ (v 31).toInt ∧ (v 31).toInt ≤ 6 := Xb_31 hIv
              refine lv_icmp_ge (tgt := 120) hx hb dX1_passDay_101 rfl (fun c16 => ?_) (fun c16 => ?_)
              · skip
                refine lv_aload_n hx hb dX1_passDay_120 rfl (lv_at hl 2 rfl) ?_
                refine va_get (D := (dC, dI)) (ci := 1) (v := .ref (x 22)) (C := RX1) (T := TX1) (N := 2) hx hb hts inB_1 hown hE.1 hP 22 rfl rfl 1 (Nat.le_of_ble_eq_true rfl) (hts _ k_319) (fun _ h9 => h9) rfl dX1_passDay_121 ?_
                refine lv_bipush (v := 42) hx hb dX1_passDay_124 rfl ?_
                refine lv_dup2_11 hx hb dX1_passDay_126 rfl rfl ?_
                refine ldI hx hb hE hP 23 rfl (vp_in_nI (n := 42) (by decide) (by decide)) rfl rfl dX1_passDay_127 ?_
                refine lv_topi (fun t18 et18 => ?_)
                refine lv_iconst (v := 1) hx hb dX1_passDay_128 rfl ?_
                refine lv_iadd hx hb dX1_passDay_129 ?_
                refine lv_topi (fun t19 et19 => ?_)
                refine stI hx hb hE hP hD hS 23 rfl (vp_in_nI (n := 42) (by decide) (by decide)) rfl dX1_passDay_130 (fun H locs hP hD hS => ?_)
                obtain ⟨f20, ef20, hP, hD⟩ : ∃ fz9, fz9 = upd2 f15 15 (upd (f15 15) (42 : Int32).toNatClampNeg t19) ∧ va_P (dC, dI) vwCl (XW cy x0 x v15 fz9) H ∧ va_D A (XW cy x0 x v15 fz9) := ⟨_, rfl, hP, hD⟩
                have hA_f20 : KF [13, 14, 15] f20 f := by rw [ef20]; exact KF.up hA_f15 rfl
                refine lv_iconst (v := 0) hx hb dX1_passDay_131 rfl ?_
                refine lv_istore_n (lv' := [(3, .int 0), (2, .int 0), (0, .ref (x 21)), (1, .int p1)]) hx hb dX1_passDay_132 rfl hl (Nat.le_of_ble_eq_true rfl) rfl (fun ls hl => ?_)
                refine lv_iconst (v := 0) hx hb dX1_passDay_133 rfl ?_
                refine lv_istore (lv' := [(4, .int 0), (3, .int 0), (2, .int 0), (0, .ref (x 21)), (1, .int p1)]) hx hb dX1_passDay_134 hl (Nat.le_of_ble_eq_true rfl) rfl (fun ls hl => ?_)
                have lp21 : ∀ (n21 : Nat) (l3_21 : Int32) (l4_21 : Int32) (v21 : Nat → Int32) (f21 : Nat → Nat → Int32), XI v21 → v21 0 = (v 0) → v21 1 = (v 1) → v21 7 = (v 7) → v21 8 = (v 8) → v21 9 = (v 9) → v21 10 = (v 10) → v21 31 = (v 31) → v21 32 = (v 32) → ((0 : Int) ≤ l4_21.toInt ∧ l4_21.toInt ≤ 2147483647) → KV [] v21 v → KF [13, 14, 15] f21 f → (2147483647 - l4_21.toInt).toNat < n21 → ∀ (H : Heap) (locs : List Loc) (ls : Array Slot), va_P (dC, dI) vwCl (XW cy x0 x v21 f21) H → va_D A (XW cy x0 x v21 f21) → va_S A s.heap H locs → lv_has ls 5 [(4, .int l4_21), (3, .int l3_21), (2, .int 0), (0, .ref (x 21)), (1, .int p1)] → W p l e { frames := 5, cells := 0, slots := 0, locals := 155 } s m ([.ref (x 21), .int p1] : List Value).toArray below meth c H locs 0 0 Q (F0 m 136 ls []) := by
                  intro n21
                  induction n21 with
                  | zero => intro l3_21 l4_21 v21 f21 hIv21 hq0_v21 hq1_v21 hq7_v21 hq8_v21 hq9_v21 hq10_v21 hq31_v21 hq32_v21 hr4_21 hM_v21 hA_f21 hm; exact absurd hm (Nat.not_lt_zero _)
                  | succ n21 ih21 =>
                    intro l3_21 l4_21 v21 f21 hIv21 hq0_v21 hq1_v21 hq7_v21 hq8_v21 hq9_v21 hq10_v21 hq31_v21 hq32_v21 hr4_21 hM_v21 hA_f21 hm21 H locs ls hP hD hS hl
                    refine lv_iload hx hb dX1_passDay_136 (lv_at hl 0 rfl) ?_
                    refine lv_aload_n hx hb dX1_passDay_138 rfl (lv_at hl 3 rfl) ?_
                    refine va_get (D := (dC, dI)) (ci := 1) (v := .ref (x 26)) (C := RX1) (T := TX1) (N := 2) hx hb hts inB_1 hown hE.1 hP 22 rfl rfl 0 (Nat.le_of_ble_eq_true rfl) (hts _ k_318) (fun _ h9 => h9) rfl dX1_passDay_139 ?_
                    refine va_getN (D := (dC, dI)) (ci := 7) (v := .int (v21 31)) (C := RX7) (T := TX7) (N := 10) hx hb hts inB_7 hown hE.1 hP 27 rfl rfl 3 (Nat.le_of_ble_eq_true rfl) (va_Nw.use rfl (hE.2 _ k_219)) (fun _ h9 => h9) rfl dX1_passDay_142 ?_
                    refine tI (y := (v 31)) hq31_v21 ?_
                    have b31_v : 0 ≤ (v 31).toInt ∧ (v 31).toInt ≤ 6 := Xb_31 hIv
                    refine lv_icmp_ge (tgt := 193) hx hb dX1_passDay_145 rfl (fun c22 => ?_) (fun c22 => ?_)
                    · skip
                      refine lv_iload_n hx hb dX1_passDay_193 rfl (lv_at hl 1 rfl) ?_
                      exact ret l3_21 (v21, f21) _ _ _ _ _ _ rfl ⟨hM_v21, hA_f21, hIv21, hq0_v21, hq1_v21, hq7_v21, hq8_v21, hq9_v21, hq10_v21, hq31_v21, hq32_v21⟩ hP hD hS dX1_passDay_194 (Nat.le_refl _) (Nat.le_refl _)
                    · skip
                      have zc22 : ¬ ((v 31).toInt ≤ l4_21.toInt) := zMn rfl rfl c22
                      refine lv_aload_n hx hb dX1_passDay_148 rfl (lv_at hl 3 rfl) ?_
                      refine lv_iload hx hb dX1_passDay_149 (lv_at hl 0 rfl) ?_
                      refine cbVi (n := 1) (rest := []) hx hb hml hown hts hE hP hD hS hA (sX_X1_wears_1 l dC dI cy x0 x l4_21 v21 f21 hIv21 ) k_853 k_810 k_811 k_106 k_812 hd_yX1_wears ⟨Nat.le_of_ble_eq_true rfl, Nat.le_of_ble_eq_true rfl⟩ 22 1 rfl rfl (rfl) hl.1 rfl (Nat.le_of_ble_eq_true rfl) dX1_passDay_151 (fun r25 u H locs hw hP hD hS => ?_)
                      refine lv_iconst (v := (-1)) hx hb dX1_passDay_154 rfl ?_
                      refine lv_icmp_eq (tgt := 187) hx hb dX1_passDay_155 rfl (fun c26 => ?_) (fun c26 => ?_)
                      · skip
                        obtain ⟨t27, et27⟩ : ∃ y : Int32, y = l4_21 + 1 := ⟨_, rfl⟩
                        have zt27 : t27.toInt = l4_21.toInt + 1 := (congrArg Int32.toInt et27).trans (add_i rfl tc_1 (om_41 hr4_21) (om_193 b31_v zc22))
                        refine lv_iinc (v := t27) (lv' := [(4, .int t27), (3, .int l3_21), (2, .int 0), (0, .ref (x 21)), (1, .int p1)]) hx hb dX1_passDay_187 hl (k := 0) rfl et27.symm (Nat.le_of_ble_eq_true rfl) rfl (fun ls hl => ?_)
                        refine lv_goto (tgt := 136) hx hb dX1_passDay_190 rfl ?_
                        have rg28 := fb_rng t27
                        exact ih21 l3_21 t27 v21 f21 hIv21 hq0_v21 hq1_v21 hq7_v21 hq8_v21 hq9_v21 hq10_v21 hq31_v21 hq32_v21 ⟨show (0 : Int) ≤ t27.toInt from om_43 hr4_21 zt27, show t27.toInt ≤ (2147483647 : Int) from om_44 rg28⟩ hM_v21 hA_f21 (show (2147483647 - t27.toInt).toNat < n21 from om_33 hm21 zt27 rg28) _ _ _ hP hD hS (lv_sub hl [0, 1, 2, 3, 4] rfl)
                      · skip
                        refine lv_aload_n hx hb dX1_passDay_158 rfl (lv_at hl 3 rfl) ?_
                        refine lv_iload hx hb dX1_passDay_159 (lv_at hl 0 rfl) ?_
                        refine lv_aload_n hx hb dX1_passDay_161 rfl (lv_at hl 3 rfl) ?_
                        refine lv_iload hx hb dX1_passDay_162 (lv_at hl 0 rfl) ?_
                        refine cbVi (n := 1) (rest := [.int l4_21, .ref (x 21)]) hx hb hml hown hts hE hP hD hS hA (sX_X1_wears_1 l dC dI cy x0 x l4_21 v21 f21 hIv21 ) k_853 k_810 k_811 k_106 k_812 hd_yX1_wears ⟨Nat.le_of_ble_eq_true rfl, Nat.le_of_ble_eq_true rfl⟩ 22 1 rfl rfl (rfl) hl.1 rfl (Nat.le_of_ble_eq_true rfl) dX1_passDay_164 (fun r29 u H locs hw hP hD hS => ?_)
                        refine cbVi (n := 2) (rest := []) hx hb hml hown hts hE hP hD hS hA (sX_X1_fits_1 l dC dI cy x0 x l4_21 r29 v21 f21 hIv21 ) k_817 k_818 k_819 k_106 k_820 hd_yX1_fits ⟨Nat.le_of_ble_eq_true rfl, Nat.le_of_ble_eq_true rfl⟩ 22 1 rfl rfl (rfl) hl.1 rfl (Nat.le_of_ble_eq_true rfl) dX1_passDay_167 (fun r30 u H locs hw hP hD hS => ?_)
                        obtain ⟨v31, f32⟩ := u
                        obtain ⟨kV_v31, kF_f32, hIv31, hk0_v31, hk1_v31, hk7_v31, hk8_v31, hk9_v31, hk10_v31, hk31_v31, hk32_v31, hw⟩ := hw
                        have hM_v31 : KV [] v31 v := KV.tr kV_v31 hM_v21 rfl
                        have hA_f32 : KF [13, 14, 15] f32 f := KF.tr kF_f32 hA_f21 rfl
                        have hP : va_P (dC, dI) vwCl (XW cy x0 x v31 f32) H := hP
                        have hD : va_D A (XW cy x0 x v31 f32) := hD
                        have hq0_v31 : v31 0 = (v 0) := hk0_v31.trans hq0_v21
                        have hq1_v31 : v31 1 = (v 1) := hk1_v31.trans hq1_v21
                        have hq7_v31 : v31 7 = (v 7) := hk7_v31.trans hq7_v21
                        have hq8_v31 : v31 8 = (v 8) := hk8_v31.trans hq8_v21
                        have hq9_v31 : v31 9 = (v 9) := hk9_v31.trans hq9_v21
                        have hq10_v31 : v31 10 = (v 10) := hk10_v31.trans hq10_v21
                        have hq31_v31 : v31 31 = (v 31) := hk31_v31.trans hq31_v21
                        have hq32_v31 : v31 32 = (v 32) := hk32_v31.trans hq32_v21
                        rcases hw with ⟨g33⟩ | ⟨g33⟩
                        · skip
                          subst g33
                          refine lv_if_ne (tgt := 187) hx hb dX1_passDay_170 rfl (fun _ => ?_) (fun c0 => absurd c0 (by decide))
                          obtain ⟨t34, et34⟩ : ∃ y : Int32, y = l4_21 + 1 := ⟨_, rfl⟩
                          have zt34 : t34.toInt = l4_21.toInt + 1 := (congrArg Int32.toInt et34).trans (add_i rfl tc_1 (om_41 hr4_21) (om_193 b31_v zc22))
                          refine lv_iinc (v := t34) (lv' := [(4, .int t34), (3, .int l3_21), (2, .int 0), (0, .ref (x 21)), (1, .int p1)]) hx hb dX1_passDay_187 hl (k := 0) rfl et34.symm (Nat.le_of_ble_eq_true rfl) rfl (fun ls hl => ?_)
                          refine lv_goto (tgt := 136) hx hb dX1_passDay_190 rfl ?_
                          have rg35 := fb_rng t34
                          exact ih21 l3_21 t34 v31 f32 hIv31 hq0_v31 hq1_v31 hq7_v31 hq8_v31 hq9_v31 hq10_v31 hq31_v31 hq32_v31 ⟨show (0 : Int) ≤ t34.toInt from om_43 hr4_21 zt34, show t34.toInt ≤ (2147483647 : Int) from om_44 rg35⟩ hM_v31 hA_f32 (show (2147483647 - t34.toInt).toNat < n21 from om_33 hm21 zt34 rg35) _ _ _ hP hD hS (lv_sub hl [0, 1, 2, 3, 4] rfl)
                        · skip
                          subst g33
                          refine lv_if_ne (tgt := 187) hx hb dX1_passDay_170 rfl (fun c0 => absurd (by decide) c0) (fun _ => ?_)
                          refine lv_aload_n hx hb dX1_passDay_173 rfl (lv_at hl 3 rfl) ?_
                          refine lv_iload hx hb dX1_passDay_174 (lv_at hl 0 rfl) ?_
                          refine lv_iconst (v := (-1)) hx hb dX1_passDay_176 rfl ?_
                          refine cbVv (n := 2) (rest := []) hx hb hml hown hts hE hP hD hS hA (sX_X1_setWears_1 l dC dI cy x0 x l4_21 (-1) v31 f32 hIv31 ) k_879 k_880 k_881 k_106 k_882 hd_yX1_setWears ⟨Nat.le_of_ble_eq_true rfl, Nat.le_of_ble_eq_true rfl⟩ 22 1 rfl rfl (rfl) hl.1 rfl (Nat.le_of_ble_eq_true rfl) dX1_passDay_177 (fun u H locs hw hP hD hS => ?_)
                          obtain ⟨v36, f37⟩ := u
                          obtain ⟨kV_v36, kF_f37, hIv36, hk0_v36, hk1_v36, hk7_v36, hk8_v36, hk9_v36, hk10_v36, hk31_v36, hk32_v36⟩ := hw
                          have hM_v36 : KV [] v36 v := KV.tr kV_v36 hM_v31 rfl
                          have hA_f37 : KF [13, 14, 15] f37 f := KF.tr kF_f37 hA_f32 rfl
                          have hP : va_P (dC, dI) vwCl (XW cy x0 x v36 f37) H := hP
                          have hD : va_D A (XW cy x0 x v36 f37) := hD
                          have hq0_v36 : v36 0 = (v 0) := hk0_v36.trans hq0_v31
                          have hq1_v36 : v36 1 = (v 1) := hk1_v36.trans hq1_v31
                          have hq7_v36 : v36 7 = (v 7) := hk7_v36.trans hq7_v31
                          have hq8_v36 : v36 8 = (v 8) := hk8_v36.trans hq8_v31
                          have hq9_v36 : v36 9 = (v 9) := hk9_v36.trans hq9_v31
                          have hq10_v36 : v36 10 = (v 10) := hk10_v36.trans hq10_v31
                          have hq31_v36 : v36 31 = (v 31) := hk31_v36.trans hq31_v31
                          have hq32_v36 : v36 32 = (v 32) := hk32_v36.trans hq32_v31
                          refine lv_iload_n hx hb dX1_passDay_180 rfl (lv_at hl 1 rfl) ?_
                          refine lv_iconst (v := 1) hx hb dX1_passDay_181 rfl ?_
                          refine lv_iload hx hb dX1_passDay_182 (lv_at hl 0 rfl) ?_
                          refine lv_ishl hx hb dX1_passDay_184 ?_
                          refine lv_topi (fun t38 et38 => ?_)
                          refine lv_ior hx hb dX1_passDay_185 ?_
                          refine lv_topi (fun t39 et39 => ?_)
                          refine lv_istore_n (lv' := [(3, .int t39), (4, .int l4_21), (2, .int 0), (0, .ref (x 21)), (1, .int p1)]) hx hb dX1_passDay_186 rfl hl (Nat.le_of_ble_eq_true rfl) rfl (fun ls hl => ?_)
                          obtain ⟨t40, et40⟩ : ∃ y : Int32, y = l4_21 + 1 := ⟨_, rfl⟩
                          have zt40 : t40.toInt = l4_21.toInt + 1 := (congrArg Int32.toInt et40).trans (add_i rfl tc_1 (om_41 hr4_21) (om_193 b31_v zc22))
                          refine lv_iinc (v := t40) (lv' := [(4, .int t40), (3, .int t39), (2, .int 0), (0, .ref (x 21)), (1, .int p1)]) hx hb dX1_passDay_187 hl (k := 1) rfl et40.symm (Nat.le_of_ble_eq_true rfl) rfl (fun ls hl => ?_)
                          refine lv_goto (tgt := 136) hx hb dX1_passDay_190 rfl ?_
                          have rg41 := fb_rng t40
                          exact ih21 t39 t40 v36 f37 hIv36 hq0_v36 hq1_v36 hq7_v36 hq8_v36 hq9_v36 hq10_v36 hq31_v36 hq32_v36 ⟨show (0 : Int) ≤ t40.toInt from om_43 hr4_21 zt40, show t40.toInt ≤ (2147483647 : Int) from om_44 rg41⟩ hM_v36 hA_f37 (show (2147483647 - t40.toInt).toNat < n21 from om_33 hm21 zt40 rg41) _ _ _ hP hD hS (lv_sub hl [0, 1, 2, 3, 4] rfl)
                exact lp21 _ 0 0 v15 f20 hIv15 hq0_v15 hq1_v15 hq7_v15 hq8_v15 hq9_v15 hq10_v15 hq31_v15 hq32_v15 ⟨by decide, by decide⟩ hM_v15 hA_f20 (Nat.lt_succ_self _) _ _ _ hP hD hS (lv_sub hl [0, 1, 2, 3, 4] rfl)
              · skip
                have zc16 : ¬ ((v 31).toInt ≤ l3_15.toInt) := zMn rfl rfl c16
                refine lv_aload_n hx hb dX1_passDay_104 rfl (lv_at hl 2 rfl) ?_
                refine lv_aload_n hx hb dX1_passDay_105 rfl (lv_at hl 2 rfl) ?_
                refine lv_iload_n hx hb dX1_passDay_106 rfl (lv_at hl 0 rfl) ?_
                refine cbVi (n := 1) (rest := [.ref (x 21)]) hx hb hml hown hts hE hP hD hS hA (sX_X1_wears_1 l dC dI cy x0 x l3_15 v15 f15 hIv15 ) k_853 k_810 k_811 k_106 k_812 hd_yX1_wears ⟨Nat.le_of_ble_eq_true rfl, Nat.le_of_ble_eq_true rfl⟩ 22 1 rfl rfl (rfl) hl.1 rfl (Nat.le_of_ble_eq_true rfl) dX1_passDay_107 (fun r43 u H locs hw hP hD hS => ?_)
                refine lv_iload_n hx hb dX1_passDay_110 rfl (lv_at hl 1 rfl) ?_
                refine cbVv (n := 2) (rest := []) hx hb hml hown hts hE hP hD hS hA (sX_X1_weather_1 l dC dI cy x0 x r43 0 v15 f15 hIv15 ) k_870 k_872 k_20 k_106 k_873 hd_yX1_weather ⟨Nat.le_of_ble_eq_true rfl, Nat.le_of_ble_eq_true rfl⟩ 22 1 rfl rfl (rfl) hl.1 rfl (Nat.le_of_ble_eq_true rfl) dX1_passDay_111 (fun u H locs hw hP hD hS => ?_)
                obtain ⟨v44, f45⟩ := u
                obtain ⟨kV_v44, kF_f45, hIv44, hk0_v44, hk1_v44, hk7_v44, hk8_v44, hk9_v44, hk10_v44, hk31_v44, hk32_v44⟩ := hw
                have hM_v44 : KV [] v44 v := KV.tr kV_v44 hM_v15 rfl
                have hA_f45 : KF [13, 14, 15] f45 f := KF.tr kF_f45 hA_f15 rfl
                have hP : va_P (dC, dI) vwCl (XW cy x0 x v44 f45) H := hP
                have hD : va_D A (XW cy x0 x v44 f45) := hD
                have hq0_v44 : v44 0 = (v 0) := hk0_v44.trans hq0_v15
                have hq1_v44 : v44 1 = (v 1) := hk1_v44.trans hq1_v15
                have hq7_v44 : v44 7 = (v 7) := hk7_v44.trans hq7_v15
                have hq8_v44 : v44 8 = (v 8) := hk8_v44.trans hq8_v15
                have hq9_v44 : v44 9 = (v 9) := hk9_v44.trans hq9_v15
                have hq10_v44 : v44 10 = (v 10) := hk10_v44.trans hq10_v15
                have hq31_v44 : v44 31 = (v 31) := hk31_v44.trans hq31_v15
                have hq32_v44 : v44 32 = (v 32) := hk32_v44.trans hq32_v15
                obtain ⟨t46, et46⟩ : ∃ y : Int32, y = l3_15 + 1 := ⟨_, rfl⟩
                have zt46 : t46.toInt = l3_15.toInt + 1 := (congrArg Int32.toInt et46).trans (add_i rfl tc_1 (om_41 hr3_15) (om_193 b31_v zc16))
                refine lv_iinc (v := t46) (lv' := [(3, .int t46), (2, .int 0), (0, .ref (x 21)), (1, .int p1)]) hx hb dX1_passDay_114 hl (k := 0) rfl et46.symm (Nat.le_of_ble_eq_true rfl) rfl (fun ls hl => ?_)
                refine lv_goto (tgt := 93) hx hb dX1_passDay_117 rfl ?_
                have rg47 := fb_rng t46
                exact ih15 t46 v44 f45 hIv44 hq0_v44 hq1_v44 hq7_v44 hq8_v44 hq9_v44 hq10_v44 hq31_v44 hq32_v44 ⟨show (0 : Int) ≤ t46.toInt from om_43 hr3_15 zt46, show t46.toInt ≤ (2147483647 : Int) from om_44 rg47⟩ hM_v44 hA_f45 (show (2147483647 - t46.toInt).toNat < n15 from om_33 hm15 zt46 rg47) _ _ _ hP hD hS (lv_sub hl [0, 1, 2, 3] rfl)
          exact lp15 _ 0 v1 f9 hIv1 hq0_v1 hq1_v1 hq7_v1 hq8_v1 hq9_v1 hq10_v1 hq31_v1 hq32_v1 ⟨by decide, by decide⟩ hM_v1 hA_f9 (Nat.lt_succ_self _) _ _ _ hP hD hS (lv_sub hl [0, 1, 2, 3] rfl)
        · skip
          refine lv_iconst (v := 1) hx hb dX1_passDay_85 rfl ?_
          refine lv_goto (tgt := 90) hx hb dX1_passDay_86 rfl ?_
          refine lv_istore_n (lv' := [(2, .int 1), (0, .ref (x 21)), (1, .int p1)]) hx hb dX1_passDay_90 rfl hl (Nat.le_of_ble_eq_true rfl) rfl (fun ls hl => ?_)
          refine lv_iconst (v := 0) hx hb dX1_passDay_91 rfl ?_
          refine lv_istore_n (lv' := [(3, .int 0), (2, .int 1), (0, .ref (x 21)), (1, .int p1)]) hx hb dX1_passDay_92 rfl hl (Nat.le_of_ble_eq_true rfl) rfl (fun ls hl => ?_)
          have lp50 : ∀ (n50 : Nat) (l3_50 : Int32) (v50 : Nat → Int32) (f50 : Nat → Nat → Int32), XI v50 → v50 0 = (v 0) → v50 1 = (v 1) → v50 7 = (v 7) → v50 8 = (v 8) → v50 9 = (v 9) → v50 10 = (v 10) → v50 31 = (v 31) → v50 32 = (v 32) → ((0 : Int) ≤ l3_50.toInt ∧ l3_50.toInt ≤ 2147483647) → KV [] v50 v → KF [13, 14, 15] f50 f → (2147483647 - l3_50.toInt).toNat < n50 → ∀ (H : Heap) (locs : List Loc) (ls : Array Slot), va_P (dC, dI) vwCl (XW cy x0 x v50 f50) H → va_D A (XW cy x0 x v50 f50) → va_S A s.heap H locs → lv_has ls 5 [(3, .int l3_50), (2, .int 1), (0, .ref (x 21)), (1, .int p1)] → W p l e { frames := 5, cells := 0, slots := 0, locals := 155 } s m ([.ref (x 21), .int p1] : List Value).toArray below meth c H locs 0 0 Q (F0 m 93 ls []) := by
            intro n50
            induction n50 with
            | zero => intro l3_50 v50 f50 hIv50 hq0_v50 hq1_v50 hq7_v50 hq8_v50 hq9_v50 hq10_v50 hq31_v50 hq32_v50 hr3_50 hM_v50 hA_f50 hm; exact absurd hm (Nat.not_lt_zero _)
            | succ n50 ih50 =>
              intro l3_50 v50 f50 hIv50 hq0_v50 hq1_v50 hq7_v50 hq8_v50 hq9_v50 hq10_v50 hq31_v50 hq32_v50 hr3_50 hM_v50 hA_f50 hm50 H locs ls hP hD hS hl
              refine lv_iload_n hx hb dX1_passDay_93 rfl (lv_at hl 0 rfl) ?_
              refine lv_aload_n hx hb dX1_passDay_94 rfl (lv_at hl 2 rfl) ?_
              refine va_get (D := (dC, dI)) (ci := 1) (v := .ref (x 26)) (C := RX1) (T := TX1) (N := 2) hx hb hts inB_1 hown hE.1 hP 22 rfl rfl 0 (Nat.le_of_ble_eq_true rfl) (hts _ k_318) (fun _ h9 => h9) rfl dX1_passDay_95 ?_
              refine va_getN (D := (dC, dI)) (ci := 7) (v := .int (v50 31)) (C := RX7) (T := TX7) (N := 10) hx hb hts inB_7 hown hE.1 hP 27 rfl rfl 3 (Nat.le_of_ble_eq_true rfl) (va_Nw.use rfl (hE.2 _ k_219)) (fun _ h9 => h9) rfl dX1_passDay_98 ?_
              refine tI (y := (v 31)) hq31_v50 ?_
              have b31_v : 0 ≤ (v 31).toInt ∧ (v 31).toInt ≤ 6 := Xb_31 hIv
              refine lv_icmp_ge (tgt := 120) hx hb dX1_passDay_101 rfl (fun c51 => ?_) (fun c51 => ?_)
              · skip
                refine lv_aload_n hx hb dX1_passDay_120 rfl (lv_at hl 2 rfl) ?_
                refine va_get (D := (dC, dI)) (ci := 1) (v := .ref (x 22)) (C := RX1) (T := TX1) (N := 2) hx hb hts inB_1 hown hE.1 hP 22 rfl rfl 1 (Nat.le_of_ble_eq_true rfl) (hts _ k_319) (fun _ h9 => h9) rfl dX1_passDay_121 ?_
                refine lv_bipush (v := 42) hx hb dX1_passDay_124 rfl ?_
                refine lv_dup2_11 hx hb dX1_passDay_126 rfl rfl ?_
                refine ldI hx hb hE hP 23 rfl (vp_in_nI (n := 42) (by decide) (by decide)) rfl rfl dX1_passDay_127 ?_
                refine lv_topi (fun t53 et53 => ?_)
                refine lv_iconst (v := 1) hx hb dX1_passDay_128 rfl ?_
                refine lv_iadd hx hb dX1_passDay_129 ?_
                refine lv_topi (fun t54 et54 => ?_)
                refine stI hx hb hE hP hD hS 23 rfl (vp_in_nI (n := 42) (by decide) (by decide)) rfl dX1_passDay_130 (fun H locs hP hD hS => ?_)
                obtain ⟨f55, ef55, hP, hD⟩ : ∃ fz9, fz9 = upd2 f50 15 (upd (f50 15) (42 : Int32).toNatClampNeg t54) ∧ va_P (dC, dI) vwCl (XW cy x0 x v50 fz9) H ∧ va_D A (XW cy x0 x v50 fz9) := ⟨_, rfl, hP, hD⟩
                have hA_f55 : KF [13, 14, 15] f55 f := by rw [ef55]; exact KF.up hA_f50 rfl
                refine lv_iconst (v := 0) hx hb dX1_passDay_131 rfl ?_
                refine lv_istore_n (lv' := [(3, .int 0), (2, .int 1), (0, .ref (x 21)), (1, .int p1)]) hx hb dX1_passDay_132 rfl hl (Nat.le_of_ble_eq_true rfl) rfl (fun ls hl => ?_)
                refine lv_iconst (v := 0) hx hb dX1_passDay_133 rfl ?_
                refine lv_istore (lv' := [(4, .int 0), (3, .int 0), (2, .int 1), (0, .ref (x 21)), (1, .int p1)]) hx hb dX1_passDay_134 hl (Nat.le_of_ble_eq_true rfl) rfl (fun ls hl => ?_)
                have lp56 : ∀ (n56 : Nat) (l3_56 : Int32) (l4_56 : Int32) (v56 : Nat → Int32) (f56 : Nat → Nat → Int32), XI v56 → v56 0 = (v 0) → v56 1 = (v 1) → v56 7 = (v 7) → v56 8 = (v 8) → v56 9 = (v 9) → v56 10 = (v 10) → v56 31 = (v 31) → v56 32 = (v 32) → ((0 : Int) ≤ l4_56.toInt ∧ l4_56.toInt ≤ 2147483647) → KV [] v56 v → KF [13, 14, 15] f56 f → (2147483647 - l4_56.toInt).toNat < n56 → ∀ (H : Heap) (locs : List Loc) (ls : Array Slot), va_P (dC, dI) vwCl (XW cy x0 x v56 f56) H → va_D A (XW cy x0 x v56 f56) → va_S A s.heap H locs → lv_has ls 5 [(4, .int l4_56), (3, .int l3_56), (2, .int 1), (0, .ref (x 21)), (1, .int p1)] → W p l e { frames := 5, cells := 0, slots := 0, locals := 155 } s m ([.ref (x 21), .int p1] : List Value).toArray below meth c H locs 0 0 Q (F0 m 136 ls []) := by
                  intro n56
                  induction n56 with
                  | zero => intro l3_56 l4_56 v56 f56 hIv56 hq0_v56 hq1_v56 hq7_v56 hq8_v56 hq9_v56 hq10_v56 hq31_v56 hq32_v56 hr4_56 hM_v56 hA_f56 hm; exact absurd hm (Nat.not_lt_zero _)
                  | succ n56 ih56 =>
                    intro l3_56 l4_56 v56 f56 hIv56 hq0_v56 hq1_v56 hq7_v56 hq8_v56 hq9_v56 hq10_v56 hq31_v56 hq32_v56 hr4_56 hM_v56 hA_f56 hm56 H locs ls hP hD hS hl
                    refine lv_iload hx hb dX1_passDay_136 (lv_at hl 0 rfl) ?_
                    refine lv_aload_n hx hb dX1_passDay_138 rfl (lv_at hl 3 rfl) ?_
                    refine va_get (D := (dC, dI)) (ci := 1) (v := .ref (x 26)) (C := RX1) (T := TX1) (N := 2) hx hb hts inB_1 hown hE.1 hP 22 rfl rfl 0 (Nat.le_of_ble_eq_true rfl) (hts _ k_318) (fun _ h9 => h9) rfl dX1_passDay_139 ?_
                    refine va_getN (D := (dC, dI)) (ci := 7) (v := .int (v56 31)) (C := RX7) (T := TX7) (N := 10) hx hb hts inB_7 hown hE.1 hP 27 rfl rfl 3 (Nat.le_of_ble_eq_true rfl) (va_Nw.use rfl (hE.2 _ k_219)) (fun _ h9 => h9) rfl dX1_passDay_142 ?_
                    refine tI (y := (v 31)) hq31_v56 ?_
                    have b31_v : 0 ≤ (v 31).toInt ∧ (v 31).toInt ≤ 6 := Xb_31 hIv
                    refine lv_icmp_ge (tgt := 193) hx hb dX1_passDay_145 rfl (fun c57 => ?_) (fun c57 => ?_)
                    · skip
                      refine lv_iload_n hx hb dX1_passDay_193 rfl (lv_at hl 1 rfl) ?_
                      exact ret l3_56 (v56, f56) _ _ _ _ _ _ rfl ⟨hM_v56, hA_f56, hIv56, hq0_v56, hq1_v56, hq7_v56, hq8_v56, hq9_v56, hq10_v56, hq31_v56, hq32_v56⟩ hP hD hS dX1_passDay_194 (Nat.le_refl _) (Nat.le_refl _)
                    · skip
                      have zc57 : ¬ ((v 31).toInt ≤ l4_56.toInt) := zMn rfl rfl c57
                      refine lv_aload_n hx hb dX1_passDay_148 rfl (lv_at hl 3 rfl) ?_
                      refine lv_iload hx hb dX1_passDay_149 (lv_at hl 0 rfl) ?_
                      refine cbVi (n := 1) (rest := []) hx hb hml hown hts hE hP hD hS hA (sX_X1_wears_1 l dC dI cy x0 x l4_56 v56 f56 hIv56 ) k_853 k_810 k_811 k_106 k_812 hd_yX1_wears ⟨Nat.le_of_ble_eq_true rfl, Nat.le_of_ble_eq_true rfl⟩ 22 1 rfl rfl (rfl) hl.1 rfl (Nat.le_of_ble_eq_true rfl) dX1_passDay_151 (fun r60 u H locs hw hP hD hS => ?_)
                      refine lv_iconst (v := (-1)) hx hb dX1_passDay_154 rfl ?_
                      refine lv_icmp_eq (tgt := 187) hx hb dX1_passDay_155 rfl (fun c61 => ?_) (fun c61 => ?_)
                      · skip
                        obtain ⟨t62, et62⟩ : ∃ y : Int32, y = l4_56 + 1 := ⟨_, rfl⟩
                        have zt62 : t62.toInt = l4_56.toInt + 1 := (congrArg Int32.toInt et62).trans (add_i rfl tc_1 (om_41 hr4_56) (om_193 b31_v zc57))
                        refine lv_iinc (v := t62) (lv' := [(4, .int t62), (3, .int l3_56), (2, .int 1), (0, .ref (x 21)), (1, .int p1)]) hx hb dX1_passDay_187 hl (k := 0) rfl et62.symm (Nat.le_of_ble_eq_true rfl) rfl (fun ls hl => ?_)
                        refine lv_goto (tgt := 136) hx hb dX1_passDay_190 rfl ?_
                        have rg63 := fb_rng t62
                        exact ih56 l3_56 t62 v56 f56 hIv56 hq0_v56 hq1_v56 hq7_v56 hq8_v56 hq9_v56 hq10_v56 hq31_v56 hq32_v56 ⟨show (0 : Int) ≤ t62.toInt from om_43 hr4_56 zt62, show t62.toInt ≤ (2147483647 : Int) from om_44 rg63⟩ hM_v56 hA_f56 (show (2147483647 - t62.toInt).toNat < n56 from om_33 hm56 zt62 rg63) _ _ _ hP hD hS (lv_sub hl [0, 1, 2, 3, 4] rfl)
                      · skip
                        refine lv_aload_n hx hb dX1_passDay_158 rfl (lv_at hl 3 rfl) ?_
                        refine lv_iload hx hb dX1_passDay_159 (lv_at hl 0 rfl) ?_
                        refine lv_aload_n hx hb dX1_passDay_161 rfl (lv_at hl 3 rfl) ?_
                        refine lv_iload hx hb dX1_passDay_162 (lv_at hl 0 rfl) ?_
                        refine cbVi (n := 1) (rest := [.int l4_56, .ref (x 21)]) hx hb hml hown hts hE hP hD hS hA (sX_X1_wears_1 l dC dI cy x0 x l4_56 v56 f56 hIv56 ) k_853 k_810 k_811 k_106 k_812 hd_yX1_wears ⟨Nat.le_of_ble_eq_true rfl, Nat.le_of_ble_eq_true rfl⟩ 22 1 rfl rfl (rfl) hl.1 rfl (Nat.le_of_ble_eq_true rfl) dX1_passDay_164 (fun r64 u H locs hw hP hD hS => ?_)
                        refine cbVi (n := 2) (rest := []) hx hb hml hown hts hE hP hD hS hA (sX_X1_fits_1 l dC dI cy x0 x l4_56 r64 v56 f56 hIv56 ) k_817 k_818 k_819 k_106 k_820 hd_yX1_fits ⟨Nat.le_of_ble_eq_true rfl, Nat.le_of_ble_eq_true rfl⟩ 22 1 rfl rfl (rfl) hl.1 rfl (Nat.le_of_ble_eq_true rfl) dX1_passDay_167 (fun r65 u H locs hw hP hD hS => ?_)
                        obtain ⟨v66, f67⟩ := u
                        obtain ⟨kV_v66, kF_f67, hIv66, hk0_v66, hk1_v66, hk7_v66, hk8_v66, hk9_v66, hk10_v66, hk31_v66, hk32_v66, hw⟩ := hw
                        have hM_v66 : KV [] v66 v := KV.tr kV_v66 hM_v56 rfl
                        have hA_f67 : KF [13, 14, 15] f67 f := KF.tr kF_f67 hA_f56 rfl
                        have hP : va_P (dC, dI) vwCl (XW cy x0 x v66 f67) H := hP
                        have hD : va_D A (XW cy x0 x v66 f67) := hD
                        have hq0_v66 : v66 0 = (v 0) := hk0_v66.trans hq0_v56
                        have hq1_v66 : v66 1 = (v 1) := hk1_v66.trans hq1_v56
                        have hq7_v66 : v66 7 = (v 7) := hk7_v66.trans hq7_v56
                        have hq8_v66 : v66 8 = (v 8) := hk8_v66.trans hq8_v56
                        have hq9_v66 : v66 9 = (v 9) := hk9_v66.trans hq9_v56
                        have hq10_v66 : v66 10 = (v 10) := hk10_v66.trans hq10_v56
                        have hq31_v66 : v66 31 = (v 31) := hk31_v66.trans hq31_v56
                        have hq32_v66 : v66 32 = (v 32) := hk32_v66.trans hq32_v56
                        rcases hw with ⟨g68⟩ | ⟨g68⟩
                        · skip
                          subst g68
                          refine lv_if_ne (tgt := 187) hx hb dX1_passDay_170 rfl (fun _ => ?_) (fun c0 => absurd c0 (by decide))
                          obtain ⟨t69, et69⟩ : ∃ y : Int32, y = l4_56 + 1 := ⟨_, rfl⟩
                          have zt69 : t69.toInt = l4_56.toInt + 1 := (congrArg Int32.toInt et69).trans (add_i rfl tc_1 (om_41 hr4_56) (om_193 b31_v zc57))
                          refine lv_iinc (v := t69) (lv' := [(4, .int t69), (3, .int l3_56), (2, .int 1), (0, .ref (x 21)), (1, .int p1)]) hx hb dX1_passDay_187 hl (k := 0) rfl et69.symm (Nat.le_of_ble_eq_true rfl) rfl (fun ls hl => ?_)
                          refine lv_goto (tgt := 136) hx hb dX1_passDay_190 rfl ?_
                          have rg70 := fb_rng t69
                          exact ih56 l3_56 t69 v66 f67 hIv66 hq0_v66 hq1_v66 hq7_v66 hq8_v66 hq9_v66 hq10_v66 hq31_v66 hq32_v66 ⟨show (0 : Int) ≤ t69.toInt from om_43 hr4_56 zt69, show t69.toInt ≤ (2147483647 : Int) from om_44 rg70⟩ hM_v66 hA_f67 (show (2147483647 - t69.toInt).toNat < n56 from om_33 hm56 zt69 rg70) _ _ _ hP hD hS (lv_sub hl [0, 1, 2, 3, 4] rfl)
                        · skip
                          subst g68
                          refine lv_if_ne (tgt := 187) hx hb dX1_passDay_170 rfl (fun c0 => absurd (by decide) c0) (fun _ => ?_)
                          refine lv_aload_n hx hb dX1_passDay_173 rfl (lv_at hl 3 rfl) ?_
                          refine lv_iload hx hb dX1_passDay_174 (lv_at hl 0 rfl) ?_
                          refine lv_iconst (v := (-1)) hx hb dX1_passDay_176 rfl ?_
                          refine cbVv (n := 2) (rest := []) hx hb hml hown hts hE hP hD hS hA (sX_X1_setWears_1 l dC dI cy x0 x l4_56 (-1) v66 f67 hIv66 ) k_879 k_880 k_881 k_106 k_882 hd_yX1_setWears ⟨Nat.le_of_ble_eq_true rfl, Nat.le_of_ble_eq_true rfl⟩ 22 1 rfl rfl (rfl) hl.1 rfl (Nat.le_of_ble_eq_true rfl) dX1_passDay_177 (fun u H locs hw hP hD hS => ?_)
                          obtain ⟨v71, f72⟩ := u
                          obtain ⟨kV_v71, kF_f72, hIv71, hk0_v71, hk1_v71, hk7_v71, hk8_v71, hk9_v71, hk10_v71, hk31_v71, hk32_v71⟩ := hw
                          have hM_v71 : KV [] v71 v := KV.tr kV_v71 hM_v66 rfl
                          have hA_f72 : KF [13, 14, 15] f72 f := KF.tr kF_f72 hA_f67 rfl
                          have hP : va_P (dC, dI) vwCl (XW cy x0 x v71 f72) H := hP
                          have hD : va_D A (XW cy x0 x v71 f72) := hD
                          have hq0_v71 : v71 0 = (v 0) := hk0_v71.trans hq0_v66
                          have hq1_v71 : v71 1 = (v 1) := hk1_v71.trans hq1_v66
                          have hq7_v71 : v71 7 = (v 7) := hk7_v71.trans hq7_v66
                          have hq8_v71 : v71 8 = (v 8) := hk8_v71.trans hq8_v66
                          have hq9_v71 : v71 9 = (v 9) := hk9_v71.trans hq9_v66
                          have hq10_v71 : v71 10 = (v 10) := hk10_v71.trans hq10_v66
                          have hq31_v71 : v71 31 = (v 31) := hk31_v71.trans hq31_v66
                          have hq32_v71 : v71 32 = (v 32) := hk32_v71.trans hq32_v66
                          refine lv_iload_n hx hb dX1_passDay_180 rfl (lv_at hl 1 rfl) ?_
                          refine lv_iconst (v := 1) hx hb dX1_passDay_181 rfl ?_
                          refine lv_iload hx hb dX1_passDay_182 (lv_at hl 0 rfl) ?_
                          refine lv_ishl hx hb dX1_passDay_184 ?_
                          refine lv_topi (fun t73 et73 => ?_)
                          refine lv_ior hx hb dX1_passDay_185 ?_
                          refine lv_topi (fun t74 et74 => ?_)
                          refine lv_istore_n (lv' := [(3, .int t74), (4, .int l4_56), (2, .int 1), (0, .ref (x 21)), (1, .int p1)]) hx hb dX1_passDay_186 rfl hl (Nat.le_of_ble_eq_true rfl) rfl (fun ls hl => ?_)
                          obtain ⟨t75, et75⟩ : ∃ y : Int32, y = l4_56 + 1 := ⟨_, rfl⟩
                          have zt75 : t75.toInt = l4_56.toInt + 1 := (congrArg Int32.toInt et75).trans (add_i rfl tc_1 (om_41 hr4_56) (om_193 b31_v zc57))
                          refine lv_iinc (v := t75) (lv' := [(4, .int t75), (3, .int t74), (2, .int 1), (0, .ref (x 21)), (1, .int p1)]) hx hb dX1_passDay_187 hl (k := 1) rfl et75.symm (Nat.le_of_ble_eq_true rfl) rfl (fun ls hl => ?_)
                          refine lv_goto (tgt := 136) hx hb dX1_passDay_190 rfl ?_
                          have rg76 := fb_rng t75
                          exact ih56 t74 t75 v71 f72 hIv71 hq0_v71 hq1_v71 hq7_v71 hq8_v71 hq9_v71 hq10_v71 hq31_v71 hq32_v71 ⟨show (0 : Int) ≤ t75.toInt from om_43 hr4_56 zt75, show t75.toInt ≤ (2147483647 : Int) from om_44 rg76⟩ hM_v71 hA_f72 (show (2147483647 - t75.toInt).toNat < n56 from om_33 hm56 zt75 rg76) _ _ _ hP hD hS (lv_sub hl [0, 1, 2, 3, 4] rfl)
                exact lp56 _ 0 0 v50 f55 hIv50 hq0_v50 hq1_v50 hq7_v50 hq8_v50 hq9_v50 hq10_v50 hq31_v50 hq32_v50 ⟨by decide, by decide⟩ hM_v50 hA_f55 (Nat.lt_succ_self _) _ _ _ hP hD hS (lv_sub hl [0, 1, 2, 3, 4] rfl)
              · skip
                have zc51 : ¬ ((v 31).toInt ≤ l3_50.toInt) := zMn rfl rfl c51
                refine lv_aload_n hx hb dX1_passDay_104 rfl (lv_at hl 2 rfl) ?_
                refine lv_aload_n hx hb dX1_passDay_105 rfl (lv_at hl 2 rfl) ?_
                refine lv_iload_n hx hb dX1_passDay_106 rfl (lv_at hl 0 rfl) ?_
                refine cbVi (n := 1) (rest := [.ref (x 21)]) hx hb hml hown hts hE hP hD hS hA (sX_X1_wears_1 l dC dI cy x0 x l3_50 v50 f50 hIv50 ) k_853 k_810 k_811 k_106 k_812 hd_yX1_wears ⟨Nat.le_of_ble_eq_true rfl, Nat.le_of_ble_eq_true rfl⟩ 22 1 rfl rfl (rfl) hl.1 rfl (Nat.le_of_ble_eq_true rfl) dX1_passDay_107 (fun r78 u H locs hw hP hD hS => ?_)
                refine lv_iload_n hx hb dX1_passDay_110 rfl (lv_at hl 1 rfl) ?_
                refine cbVv (n := 2) (rest := []) hx hb hml hown hts hE hP hD hS hA (sX_X1_weather_1 l dC dI cy x0 x r78 1 v50 f50 hIv50 ) k_870 k_872 k_20 k_106 k_873 hd_yX1_weather ⟨Nat.le_of_ble_eq_true rfl, Nat.le_of_ble_eq_true rfl⟩ 22 1 rfl rfl (rfl) hl.1 rfl (Nat.le_of_ble_eq_true rfl) dX1_passDay_111 (fun u H locs hw hP hD hS => ?_)
                obtain ⟨v79, f80⟩ := u
                obtain ⟨kV_v79, kF_f80, hIv79, hk0_v79, hk1_v79, hk7_v79, hk8_v79, hk9_v79, hk10_v79, hk31_v79, hk32_v79⟩ := hw
                have hM_v79 : KV [] v79 v := KV.tr kV_v79 hM_v50 rfl
                have hA_f80 : KF [13, 14, 15] f80 f := KF.tr kF_f80 hA_f50 rfl
                have hP : va_P (dC, dI) vwCl (XW cy x0 x v79 f80) H := hP
                have hD : va_D A (XW cy x0 x v79 f80) := hD
                have hq0_v79 : v79 0 = (v 0) := hk0_v79.trans hq0_v50
                have hq1_v79 : v79 1 = (v 1) := hk1_v79.trans hq1_v50
                have hq7_v79 : v79 7 = (v 7) := hk7_v79.trans hq7_v50
                have hq8_v79 : v79 8 = (v 8) := hk8_v79.trans hq8_v50
                have hq9_v79 : v79 9 = (v 9) := hk9_v79.trans hq9_v50
                have hq10_v79 : v79 10 = (v 10) := hk10_v79.trans hq10_v50
                have hq31_v79 : v79 31 = (v 31) := hk31_v79.trans hq31_v50
                have hq32_v79 : v79 32 = (v 32) := hk32_v79.trans hq32_v50
                obtain ⟨t81, et81⟩ : ∃ y : Int32, y = l3_50 + 1 := ⟨_, rfl⟩
                have zt81 : t81.toInt = l3_50.toInt + 1 := (congrArg Int32.toInt et81).trans (add_i rfl tc_1 (om_41 hr3_50) (om_193 b31_v zc51))
                refine lv_iinc (v := t81) (lv' := [(3, .int t81), (2, .int 1), (0, .ref (x 21)), (1, .int p1)]) hx hb dX1_passDay_114 hl (k := 0) rfl et81.symm (Nat.le_of_ble_eq_true rfl) rfl (fun ls hl => ?_)
                refine lv_goto (tgt := 93) hx hb dX1_passDay_117 rfl ?_
                have rg82 := fb_rng t81
                exact ih50 t81 v79 f80 hIv79 hq0_v79 hq1_v79 hq7_v79 hq8_v79 hq9_v79 hq10_v79 hq31_v79 hq32_v79 ⟨show (0 : Int) ≤ t81.toInt from om_43 hr3_50 zt81, show t81.toInt ≤ (2147483647 : Int) from om_44 rg82⟩ hM_v79 hA_f80 (show (2147483647 - t81.toInt).toNat < n50 from om_33 hm50 zt81 rg82) _ _ _ hP hD hS (lv_sub hl [0, 1, 2, 3] rfl)
          exact lp50 _ 0 v1 f9 hIv1 hq0_v1 hq1_v1 hq7_v1 hq8_v1 hq9_v1 hq10_v1 hq31_v1 hq32_v1 ⟨by decide, by decide⟩ hM_v1 hA_f9 (Nat.lt_succ_self _) _ _ _ hP hD hS (lv_sub hl [0, 1, 2, 3] rfl)
      · skip
        have zc2 : ¬ ((v 31).toInt ≤ l2_1.toInt) := zMn rfl rfl c2
        refine lv_aload_n hx hb dX1_passDay_13 rfl (lv_at hl 1 rfl) ?_
        refine va_get (D := (dC, dI)) (ci := 1) (v := .ref (x 22)) (C := RX1) (T := TX1) (N := 2) hx hb hts inB_1 hown hE.1 hP 22 rfl rfl 1 (Nat.le_of_ble_eq_true rfl) (hts _ k_319) (fun _ h9 => h9) rfl dX1_passDay_14 ?_
        refine lv_iload_n hx hb dX1_passDay_17 rfl (lv_at hl 0 rfl) ?_
        refine lv_bipush (v := 99) hx hb dX1_passDay_18 rfl ?_
        refine lv_aload_n hx hb dX1_passDay_20 rfl (lv_at hl 1 rfl) ?_
        refine va_get (D := (dC, dI)) (ci := 1) (v := .ref (x 22)) (C := RX1) (T := TX1) (N := 2) hx hb hts inB_1 hown hE.1 hP 22 rfl rfl 1 (Nat.le_of_ble_eq_true rfl) (hts _ k_319) (fun _ h9 => h9) rfl dX1_passDay_21 ?_
        refine lv_iload_n hx hb dX1_passDay_24 rfl (lv_at hl 0 rfl) ?_
        refine ldI hx hb hE hP 23 rfl (vpI (k := 44) rfl (show 0 ≤ l2_1.toInt from om_39 hr2_1) (show l2_1.toInt < 44 from om_194 b31_v zc2)) rfl rfl dX1_passDay_25 ?_
        refine lv_topi (fun t85 et85 => ?_)
        refine lv_aload_n hx hb dX1_passDay_26 rfl (lv_at hl 1 rfl) ?_
        refine va_get (D := (dC, dI)) (ci := 1) (v := .ref (x 26)) (C := RX1) (T := TX1) (N := 2) hx hb hts inB_1 hown hE.1 hP 22 rfl rfl 0 (Nat.le_of_ble_eq_true rfl) (hts _ k_318) (fun _ h9 => h9) rfl dX1_passDay_27 ?_
        refine lv_iconst (v := 2) hx hb dX1_passDay_30 rfl ?_
        refine lv_iload_n hx hb dX1_passDay_31 rfl (lv_at hl 0 rfl) ?_
        refine cbVi (n := 2) (rest := [.int t85, .int 99, .int l2_1, .ref (x 22)]) hx hb hml hown hts hE hP hD hS hA (sX_X7_manPart_1 0 l dC dI cy x0 x 2 l2_1 v1 f1 hIv1 ) k_302 k_303 k_304 k_104 k_305 hd_yX7_manPart ⟨Nat.le_of_ble_eq_true rfl, Nat.le_of_ble_eq_true rfl⟩ 27 7 rfl rfl (rfl) hl.1 rfl (Nat.le_of_ble_eq_true rfl) dX1_passDay_32 (fun r86 u H locs hw hP hD hS => ?_)
        have hG87 := hw
        refine lv_iadd hx hb dX1_passDay_35 ?_
        refine lv_topi (fun t88 et88 => ?_)
        refine va_mmin hx hb (by rw [hml]; exact hl.1.symm) hown (hts _ k_869) (hts _ k_643) (hts _ k_119) (hts _ k_644) (Nat.le_of_ble_eq_true rfl) (Nat.le_of_ble_eq_true rfl) (Nat.le_of_ble_eq_true rfl) (Nat.le_of_ble_eq_true rfl) dX1_passDay_36 ?_
        refine lv_topi (fun t89 et89 => ?_)
        refine stI hx hb hE hP hD hS 23 rfl (vpI (k := 44) rfl (show 0 ≤ l2_1.toInt from om_39 hr2_1) (show l2_1.toInt < 44 from om_194 b31_v zc2)) rfl dX1_passDay_39 (fun H locs hP hD hS => ?_)
        obtain ⟨f90, ef90, hP, hD⟩ : ∃ fz9, fz9 = upd2 f1 15 (upd (f1 15) l2_1.toNatClampNeg t89) ∧ va_P (dC, dI) vwCl (XW cy x0 x v1 fz9) H ∧ va_D A (XW cy x0 x v1 fz9) := ⟨_, rfl, hP, hD⟩
        have hA_f90 : KF [13, 14, 15] f90 f := by rw [ef90]; exact KF.up hA_f1 rfl
        obtain ⟨t91, et91⟩ : ∃ y : Int32, y = l2_1 + 1 := ⟨_, rfl⟩
        have zt91 : t91.toInt = l2_1.toInt + 1 := (congrArg Int32.toInt et91).trans (add_i rfl tc_1 (om_41 hr2_1) (om_193 b31_v zc2))
        refine lv_iinc (v := t91) (lv' := [(2, .int t91), (0, .ref (x 21)), (1, .int p1)]) hx hb dX1_passDay_40 hl (k := 0) rfl et91.symm (Nat.le_of_ble_eq_true rfl) rfl (fun ls hl => ?_)
        refine lv_goto (tgt := 2) hx hb dX1_passDay_43 rfl ?_
        have rg92 := fb_rng t91
        exact ih1 t91 v1 f90 hIv1 hq0_v1 hq1_v1 hq7_v1 hq8_v1 hq9_v1 hq10_v1 hq31_v1 hq32_v1 ⟨show (0 : Int) ≤ t91.toInt from om_43 hr2_1 zt91, show t91.toInt ≤ (2147483647 : Int) from om_44 rg92⟩ hM_v1 hA_f90 (show (2147483647 - t91.toInt).toNat < n1 from om_33 hm1 zt91 rg92) _ _ _ hP hD hS (lv_sub hl [0, 1, 2] rfl)
  exact lp1 _ 0 v f hIv rfl rfl rfl rfl rfl rfl rfl rfl ⟨by decide, by decide⟩ hM_v hA_f (Nat.lt_succ_self _) _ _ _ hP hD hS (lv_sub hl [0, 1, 2] rfl)
