set_option maxHeartbeats 4000000 in
set_option maxRecDepth 100000 in
theorem sY_X11_wrong_1 (NF : Nat) (l : Launch) (dC : Nat → ClassId) (dI : Nat → Nat → Nat) (cy : Nat → ClassId) (y0 : Nat) (r : Nat → Nat) (p1 : Int32) (v : Nat → Int32) (f : Nat → Nat → Int32) (w : Int64) (g : Nat → Int64) (hIv : YI v) (hCf : YC f) (hRf : progOK (f 4) (f 5) (v 9).toInt.toNat) (hp1 : (1 : Int) ≤ p1.toInt ∧ p1.toInt ≤ 4) : ctV l (dC, dI) cy yX11_wrong cX11_wrong 2 1 60 0 0 ((Nat → Int32) × (Nat → Nat → Int32) × (Int64) × (Nat → Int64)) [.ref y0, .int p1] (YW cy y0 r v f w g) (fun u => gsY_X11_wrong_1 NF p1 v f w g = u ∧ KV [1, 2] u.1 v ∧ KF [] u.2.1 f ∧ YI u.1 ∧ YC u.2.1 ∧ progOK (u.2.1 4) (u.2.1 5) (u.1 9).toInt.toNat ∧ u.1 0 = v 0 ∧ u.1 3 = v 3 ∧ u.1 4 = v 4 ∧ u.1 5 = v 5 ∧ u.1 8 = v 8 ∧ u.1 9 = v 9 ∧ u.1 10 = v 10 ∧ u.1 13 = v 13 ∧ u.1 14 = v 14 ∧ u.1 15 = v 15 ∧ u.1 17 = v 17 ∧ u.1 18 = v 18 ∧ u.1 24 = v 24 ∧ u.1 25 = v 25 ∧ u.1 35 = v 35 ∧ u.1 36 = v 36 ∧ u.1 38 = v 38 ∧ u.1 39 = v 39 ∧ ((v 3).toInt ≤ (u.1 3).toInt) ∧ ((u.1 5).toInt = (v 5).toInt ∨ (v 3).toInt < (u.1 3).toInt ∨ ¬ (u.1 5).toInt = 59) ∧ (0 < (u.1 1).toInt) ∧ u.2.1 2 = f 2 ∧ u.2.1 3 = f 3 ∧ u.2.1 6 = f 6) (fun u => YW cy y0 r u.1 u.2.1 u.2.2.1 u.2.2.2) := by
  refine ctV_of (by decide) (Nat.le_of_ble_eq_true rfl) (fun p e s m below meth c A ls Q hx hb hml hts hown hnm hE hP hD hA hl ret => ?_)
  have hUv : (v 35).toInt + (v 36).toInt ≤ 40 := hIv.2
  have hM_v : KV [1, 2] v v := fun _ _ => rfl
  have hA_f : KF [] f f := fun _ _ => rfl
  have b0_v : (0 : Int) ≤ (v 0).toInt ∧ (v 0).toInt ≤ 1600 := YIb.b hIv.1 0 (by decide)
  have b1_v : (0 : Int) ≤ (v 1).toInt ∧ (v 1).toInt ≤ 4 := YIb.b hIv.1 1 (by decide)
  have b8_v : (0 : Int) ≤ (v 8).toInt ∧ (v 8).toInt ≤ 320 := YIb.b hIv.1 8 (by decide)
  have b10_v : (0 : Int) ≤ (v 10).toInt ∧ (v 10).toInt ≤ 160 := YIb.b hIv.1 10 (by decide)
  have b13_v : (0 : Int) ≤ (v 13).toInt ∧ (v 13).toInt ≤ 31 := YIb.b hIv.1 13 (by decide)
  have b14_v : (0 : Int) ≤ (v 14).toInt ∧ (v 14).toInt ≤ 8 := YIb.b hIv.1 14 (by decide)
  have b15_v : (0 : Int) ≤ (v 15).toInt ∧ (v 15).toInt ≤ 1 := YIb.b hIv.1 15 (by decide)
  have b17_v : (0 : Int) ≤ (v 17).toInt ∧ (v 17).toInt ≤ 6 := YIb.b hIv.1 17 (by decide)
  have b18_v : (0 : Int) ≤ (v 18).toInt ∧ (v 18).toInt ≤ 6 := YIb.b hIv.1 18 (by decide)
  have hown : s.vm.findClass RX11 = some m.cls := hown
  have hS : va_S A s.heap s.heap [] := va_S.rf
  have hl : lv_has ls 2 [(0, .ref y0), (1, .int p1)] := hl
  refine lv_aload_n hx hb dX11_wrong_0 rfl (lv_at hl 0 rfl) ?_
  refine va_get (D := (dC, dI)) (ci := 11) (v := .int (v 1)) (C := RX11) (T := TX11) (N := 79) hx hb hts inB_11 hown hE.1 hP 0 rfl rfl 2 (by decide) (hts _ k_1322) (fun _ h9 => h9) rfl dX11_wrong_1 ?_
  have b1_v : 0 ≤ (v 1).toInt ∧ (v 1).toInt ≤ 4 := YIb.b hIv.1 1 (by decide)
  refine lv_if_le (tgt := 8) hx hb dX11_wrong_4 (by decide) (fun c1 => ?_) (fun c1 => ?_)
  · skip
    have zc1 : (v 1).toInt ≤ 0 := by rw [fa_le, show (0 : Int32).toInt = 0 from by decide] at c1; exact c1
    refine lv_aload_n hx hb dX11_wrong_8 rfl (lv_at hl 0 rfl) ?_
    refine lv_aload_n hx hb dX11_wrong_9 rfl (lv_at hl 0 rfl) ?_
    refine va_get (D := (dC, dI)) (ci := 11) (v := .int (v 5)) (C := RX11) (T := TX11) (N := 79) hx hb hts inB_11 hown hE.1 hP 0 rfl rfl 6 (by decide) (hts _ k_1326) (fun _ h9 => h9) rfl dX11_wrong_10 ?_
    refine lv_iconst (v := 3) hx hb dX11_wrong_13 (by decide) ?_
    refine lv_icmp_ne (tgt := 21) hx hb dX11_wrong_14 (by decide) (fun c2 => ?_) (fun c2 => ?_)
    · skip
      have zc2 : ¬ ((v 5).toInt = 3) := by rw [fa_eq, show (3 : Int32).toInt = 3 from by decide] at c2; exact c2
      refine lv_iload_n hx hb dX11_wrong_21 rfl (lv_at hl 1 rfl) ?_
      refine va_put (D := (dC, dI)) (ci := 11) (v := .int p1) (ty := tyX11 2) (C := RX11) (T := TX11) (N := 79) hx hb hts inB_11 tyX11 tyX11_ok nmX11 hown hE.1 hP hD hS 0 rfl rfl 2 (by decide) (hts _ k_1322) (fun _ h9 => h9) rfl (tyX11_ok 2 (by decide)) rfl rfl (Nat.le_of_ble_eq_true rfl) dX11_wrong_22 (fun H locs hP hD hS => ?_)
      have hP : va_P (dC, dI) vwCl (YW cy y0 r (upd v 1 p1) f w g) H := hP
      have hD : va_D A (YW cy y0 r (upd v 1 p1) f w g) := hD
      refine lv_aload_n hx hb dX11_wrong_25 rfl (lv_at hl 0 rfl) ?_
      refine lv_aload_n hx hb dX11_wrong_26 rfl (lv_at hl 0 rfl) ?_
      refine va_get (D := (dC, dI)) (ci := 11) (v := .int (v 6)) (C := RX11) (T := TX11) (N := 79) hx hb hts inB_11 hown hE.1 hP 0 rfl rfl 7 (by decide) (hts _ k_1327) (fun _ h9 => h9) rfl dX11_wrong_27 ?_
      refine va_put (D := (dC, dI)) (ci := 11) (v := .int (v 6)) (ty := tyX11 3) (C := RX11) (T := TX11) (N := 79) hx hb hts inB_11 tyX11 tyX11_ok nmX11 hown hE.1 hP hD hS 0 rfl rfl 3 (by decide) (hts _ k_1323) (fun _ h9 => h9) rfl (tyX11_ok 3 (by decide)) rfl rfl (Nat.le_of_ble_eq_true rfl) dX11_wrong_30 (fun H locs hP hD hS => ?_)
      have hP : va_P (dC, dI) vwCl (YW cy y0 r (upd (upd v 1 p1) 2 (v 6)) f w g) H := hP
      have hD : va_D A (YW cy y0 r (upd (upd v 1 p1) 2 (v 6)) f w g) := hD
      exact ret ((upd (upd v 1 p1) 2 (v 6)), f, w, g) _ _ _ _ _ _ ⟨(gsY_X11_wrong_1_q0 c1 c2), (KV.up (j := 2) (x := (v 6)) (KV.up (j := 1) (x := p1) hM_v rfl) rfl), hA_f, ⟨(YIb.upd (j := 2) (x := (v 6)) (YIb.upd (j := 1) (x := p1) hIv.1 (show (0 : Int) ≤ p1.toInt by omega) (show p1.toInt ≤ (4 : Int) by omega)) (rlo _) (rhi _)), hIv.2⟩, hCf, hRf, rfl, rfl, rfl, rfl, rfl, rfl, rfl, rfl, rfl, rfl, rfl, rfl, rfl, rfl, rfl, rfl, rfl, rfl, (by show (v 3).toInt ≤ (v 3).toInt; omega), (by show (v 5).toInt = (v 5).toInt ∨ (v 3).toInt < (v 3).toInt ∨ ¬ (v 5).toInt = 59; omega), (by show 0 < p1.toInt; omega), rfl, rfl, rfl⟩ hP hD hS dX11_wrong_33 (Nat.le_refl _) (Nat.le_refl _)
    · skip
      have zc2 : (v 5).toInt = 3 := by rw [fa_eq, show (3 : Int32).toInt = 3 from by decide] at c2; exact c2
      refine lv_iconst (v := 1) hx hb dX11_wrong_17 (by decide) ?_
      refine lv_goto (tgt := 22) hx hb dX11_wrong_18 (by decide) ?_
      refine va_put (D := (dC, dI)) (ci := 11) (v := .int 1) (ty := tyX11 2) (C := RX11) (T := TX11) (N := 79) hx hb hts inB_11 tyX11 tyX11_ok nmX11 hown hE.1 hP hD hS 0 rfl rfl 2 (by decide) (hts _ k_1322) (fun _ h9 => h9) rfl (tyX11_ok 2 (by decide)) rfl rfl (Nat.le_of_ble_eq_true rfl) dX11_wrong_22 (fun H locs hP hD hS => ?_)
      have hP : va_P (dC, dI) vwCl (YW cy y0 r (upd v 1 1) f w g) H := hP
      have hD : va_D A (YW cy y0 r (upd v 1 1) f w g) := hD
      refine lv_aload_n hx hb dX11_wrong_25 rfl (lv_at hl 0 rfl) ?_
      refine lv_aload_n hx hb dX11_wrong_26 rfl (lv_at hl 0 rfl) ?_
      refine va_get (D := (dC, dI)) (ci := 11) (v := .int (v 6)) (C := RX11) (T := TX11) (N := 79) hx hb hts inB_11 hown hE.1 hP 0 rfl rfl 7 (by decide) (hts _ k_1327) (fun _ h9 => h9) rfl dX11_wrong_27 ?_
      refine va_put (D := (dC, dI)) (ci := 11) (v := .int (v 6)) (ty := tyX11 3) (C := RX11) (T := TX11) (N := 79) hx hb hts inB_11 tyX11 tyX11_ok nmX11 hown hE.1 hP hD hS 0 rfl rfl 3 (by decide) (hts _ k_1323) (fun _ h9 => h9) rfl (tyX11_ok 3 (by decide)) rfl rfl (Nat.le_of_ble_eq_true rfl) dX11_wrong_30 (fun H locs hP hD hS => ?_)
      have hP : va_P (dC, dI) vwCl (YW cy y0 r (upd (upd v 1 1) 2 (v 6)) f w g) H := hP
      have hD : va_D A (YW cy y0 r (upd (upd v 1 1) 2 (v 6)) f w g) := hD
      exact ret ((upd (upd v 1 1) 2 (v 6)), f, w, g) _ _ _ _ _ _ ⟨(gsY_X11_wrong_1_q1 c1 c2), (KV.up (j := 2) (x := (v 6)) (KV.up (j := 1) (x := 1) hM_v rfl) rfl), hA_f, ⟨(YIb.upd (j := 2) (x := (v 6)) (YIb.upd (j := 1) (x := 1) hIv.1 (by decide) (by decide)) (rlo _) (rhi _)), hIv.2⟩, hCf, hRf, rfl, rfl, rfl, rfl, rfl, rfl, rfl, rfl, rfl, rfl, rfl, rfl, rfl, rfl, rfl, rfl, rfl, rfl, (by have q0 : (1 : Int32).toInt = 1 := (by decide); show (v 3).toInt ≤ (v 3).toInt; omega), (by have q0 : (1 : Int32).toInt = 1 := (by decide); show (v 5).toInt = (v 5).toInt ∨ (v 3).toInt < (v 3).toInt ∨ ¬ (v 5).toInt = 59; omega), (by have q0 : (1 : Int32).toInt = 1 := (by decide); show 0 < (1 : Int32).toInt; omega), rfl, rfl, rfl⟩ hP hD hS dX11_wrong_33 (Nat.le_refl _) (Nat.le_refl _)
  · skip
    have zc1 : ¬ ((v 1).toInt ≤ 0) := by rw [fa_le, show (0 : Int32).toInt = 0 from by decide] at c1; exact c1
    exact ret (v, f, w, g) _ _ _ _ _ _ ⟨(gsY_X11_wrong_1_q2 c1), hM_v, hA_f, hIv, hCf, hRf, rfl, rfl, rfl, rfl, rfl, rfl, rfl, rfl, rfl, rfl, rfl, rfl, rfl, rfl, rfl, rfl, rfl, rfl, (by show (v 3).toInt ≤ (v 3).toInt; omega), (by show (v 5).toInt = (v 5).toInt ∨ (v 3).toInt < (v 3).toInt ∨ ¬ (v 5).toInt = 59; omega), (by show 0 < (v 1).toInt; omega), rfl, rfl, rfl⟩ hP hD hS dX11_wrong_7 (Nat.le_refl _) (Nat.le_refl _)
set_option maxHeartbeats 4000000 in
set_option maxRecDepth 100000 in
theorem sY_X11_isWord_1 (NF : Nat) (l : Launch) (dC : Nat → ClassId) (dI : Nat → Nat → Nat) (cy : Nat → ClassId) (y0 : Nat) (r : Nat → Nat) (j1 : Int64) (v : Nat → Int32) (f : Nat → Nat → Int32) (w : Int64) (g : Nat → Int64) (hIv : YI v) (hCf : YC f) (hRf : progOK (f 4) (f 5) (v 9).toInt.toNat)  : ctI l (dC, dI) cy yX11_isWord cX11_isWord 3 .boolean 1 60 0 0 Unit [.ref y0, .long j1] (YW cy y0 r v f w g) (fun r u => gsY_X11_isWord_1 NF j1 v f w g = r ∧ ((r = 1 ∧ (v 5).toInt = 1) ∨ (r = 0))) (fun u => YW cy y0 r v f w g) := by
  refine ctI_of (by decide) (Nat.le_of_ble_eq_true rfl) (fun p e s m below meth c A ls Q hx hb hml hts hown hE hP hD hA hl ret => ?_)
  have hUv : (v 35).toInt + (v 36).toInt ≤ 40 := hIv.2
  have hown : s.vm.findClass RX11 = some m.cls := hown
  have hS : va_S A s.heap s.heap [] := va_S.rf
  have hl : lv_has ls 3 [(0, .ref y0), (1, .long j1)] := hl
  refine lv_aload_n hx hb dX11_isWord_0 rfl (lv_at hl 0 rfl) ?_
  refine va_get (D := (dC, dI)) (ci := 11) (v := .int (v 5)) (C := RX11) (T := TX11) (N := 79) hx hb hts inB_11 hown hE.1 hP 0 rfl rfl 6 (by decide) (hts _ k_1326) (fun _ h9 => h9) rfl dX11_isWord_1 ?_
  refine lv_iconst (v := 1) hx hb dX11_isWord_4 (by decide) ?_
  refine lv_icmp_ne (tgt := 21) hx hb dX11_isWord_5 (by decide) (fun c1 => ?_) (fun c1 => ?_)
  · skip
    have zc1 : ¬ ((v 5).toInt = 1) := by rw [fa_eq, show (1 : Int32).toInt = 1 from by decide] at c1; exact c1
    refine lv_iconst (v := 0) hx hb dX11_isWord_21 (by decide) ?_
    exact ret 0 () _ _ _ _ _ _ rfl ⟨(gsY_X11_isWord_1_q0 c1), (Or.inr rfl)⟩ hP hD hS dX11_isWord_22 (Nat.le_refl _) (Nat.le_refl _)
  · skip
    have zc1 : (v 5).toInt = 1 := by rw [fa_eq, show (1 : Int32).toInt = 1 from by decide] at c1; exact c1
    refine lv_aload_n hx hb dX11_isWord_8 rfl (lv_at hl 0 rfl) ?_
    refine va_get (D := (dC, dI)) (ci := 11) (v := .long w) (C := RX11) (T := TX11) (N := 79) hx hb hts inB_11 hown hE.1 hP 0 rfl rfl 9 (by decide) (hts _ k_1329) (fun _ h9 => h9) rfl dX11_isWord_9 ?_
    refine lv_lload_n hx hb dX11_isWord_12 rfl (lv_at hl 1 rfl) ?_
    refine W.lcmp hx hb dX11_isWord_13 ?_
    refine lv_topi (fun t2 et2 => ?_)
    refine lv_if_ne (tgt := 21) hx hb dX11_isWord_14 (by decide) (fun c3 => ?_) (fun c3 => ?_)
    · skip
      have zc3 : ¬ (t2.toInt = 0) := by rw [fa_eq, show (0 : Int32).toInt = 0 from by decide] at c3; exact c3
      refine lv_iconst (v := 0) hx hb dX11_isWord_21 (by decide) ?_
      exact ret 0 () _ _ _ _ _ _ rfl ⟨(gsY_X11_isWord_1_q1 c1 et2 c3), (Or.inr rfl)⟩ hP hD hS dX11_isWord_22 (Nat.le_refl _) (Nat.le_refl _)
    · skip
      have zc3 : t2.toInt = 0 := by rw [fa_eq, show (0 : Int32).toInt = 0 from by decide] at c3; exact c3
      refine lv_iconst (v := 1) hx hb dX11_isWord_17 (by decide) ?_
      refine lv_goto (tgt := 22) hx hb dX11_isWord_18 (by decide) ?_
      exact ret 1 () _ _ _ _ _ _ rfl ⟨(gsY_X11_isWord_1_q2 c1 et2 c3), (Or.inl ⟨rfl, by omega⟩)⟩ hP hD hS dX11_isWord_22 (Nat.le_refl _) (Nat.le_refl _)
set_option maxHeartbeats 4000000 in
set_option maxRecDepth 100000 in
theorem sY_X11_want_1 (NF : Nat) (l : Launch) (dC : Nat → ClassId) (dI : Nat → Nat → Nat) (cy : Nat → ClassId) (y0 : Nat) (r : Nat → Nat) (j1 : Int64) (v : Nat → Int32) (f : Nat → Nat → Int32) (w : Int64) (g : Nat → Int64) (hIv : YI v) (hCf : YC f) (hRf : progOK (f 4) (f 5) (v 9).toInt.toNat)  : ctV l (dC, dI) cy yX11_want cX11_want 3 3 103 0 0 ((Nat → Int32) × (Nat → Nat → Int32) × (Int64) × (Nat → Int64)) [.ref y0, .long j1] (YW cy y0 r v f w g) (fun u => gsY_X11_want_1 NF j1 v f w g = u ∧ KV [1, 2, 3, 5, 6, 7] u.1 v ∧ KF [] u.2.1 f ∧ YI u.1 ∧ YC u.2.1 ∧ progOK (u.2.1 4) (u.2.1 5) (u.1 9).toInt.toNat ∧ u.1 0 = v 0 ∧ u.1 4 = v 4 ∧ u.1 8 = v 8 ∧ u.1 9 = v 9 ∧ u.1 10 = v 10 ∧ u.1 13 = v 13 ∧ u.1 14 = v 14 ∧ u.1 15 = v 15 ∧ u.1 17 = v 17 ∧ u.1 18 = v 18 ∧ u.1 24 = v 24 ∧ u.1 25 = v 25 ∧ u.1 35 = v 35 ∧ u.1 36 = v 36 ∧ u.1 38 = v 38 ∧ u.1 39 = v 39 ∧ ((v 3).toInt ≤ (u.1 3).toInt) ∧ ((u.1 5).toInt = (v 5).toInt ∨ (v 3).toInt < (u.1 3).toInt ∨ ¬ (u.1 5).toInt = 59) ∧ u.2.1 2 = f 2 ∧ u.2.1 3 = f 3 ∧ u.2.1 6 = f 6) (fun u => YW cy y0 r u.1 u.2.1 u.2.2.1 u.2.2.2) := by
  refine ctV_of (by decide) (Nat.le_of_ble_eq_true rfl) (fun p e s m below meth c A ls Q hx hb hml hts hown hnm hE hP hD hA hl ret => ?_)
  have hUv : (v 35).toInt + (v 36).toInt ≤ 40 := hIv.2
  have hM_v : KV [1, 2, 3, 5, 6, 7] v v := fun _ _ => rfl
  have hA_f : KF [] f f := fun _ _ => rfl
  have b0_v : (0 : Int) ≤ (v 0).toInt ∧ (v 0).toInt ≤ 1600 := YIb.b hIv.1 0 (by decide)
  have b1_v : (0 : Int) ≤ (v 1).toInt ∧ (v 1).toInt ≤ 4 := YIb.b hIv.1 1 (by decide)
  have b8_v : (0 : Int) ≤ (v 8).toInt ∧ (v 8).toInt ≤ 320 := YIb.b hIv.1 8 (by decide)
  have b10_v : (0 : Int) ≤ (v 10).toInt ∧ (v 10).toInt ≤ 160 := YIb.b hIv.1 10 (by decide)
  have b13_v : (0 : Int) ≤ (v 13).toInt ∧ (v 13).toInt ≤ 31 := YIb.b hIv.1 13 (by decide)
  have b14_v : (0 : Int) ≤ (v 14).toInt ∧ (v 14).toInt ≤ 8 := YIb.b hIv.1 14 (by decide)
  have b15_v : (0 : Int) ≤ (v 15).toInt ∧ (v 15).toInt ≤ 1 := YIb.b hIv.1 15 (by decide)
  have b17_v : (0 : Int) ≤ (v 17).toInt ∧ (v 17).toInt ≤ 6 := YIb.b hIv.1 17 (by decide)
  have b18_v : (0 : Int) ≤ (v 18).toInt ∧ (v 18).toInt ≤ 6 := YIb.b hIv.1 18 (by decide)
  have hGR : GR (v 3).toInt (v 5).toInt (v 3).toInt (v 5).toInt := GR.refl _ _
  have hown : s.vm.findClass RX11 = some m.cls := hown
  have hS : va_S A s.heap s.heap [] := va_S.rf
  have hl : lv_has ls 3 [(0, .ref y0), (1, .long j1)] := hl
  refine lv_aload_n hx hb dX11_want_0 rfl (lv_at hl 0 rfl) ?_
  refine va_get (D := (dC, dI)) (ci := 11) (v := .int (v 1)) (C := RX11) (T := TX11) (N := 79) hx hb hts inB_11 hown hE.1 hP 0 rfl rfl 2 (by decide) (hts _ k_1322) (fun _ h9 => h9) rfl dX11_want_1 ?_
  have b1_v : 0 ≤ (v 1).toInt ∧ (v 1).toInt ≤ 4 := YIb.b hIv.1 1 (by decide)
  refine lv_if_le (tgt := 8) hx hb dX11_want_4 (by decide) (fun c1 => ?_) (fun c1 => ?_)
  · skip
    have zc1 : (v 1).toInt ≤ 0 := by rw [fa_le, show (0 : Int32).toInt = 0 from by decide] at c1; exact c1
    refine lv_aload_n hx hb dX11_want_8 rfl (lv_at hl 0 rfl) ?_
    refine lv_lload_n hx hb dX11_want_9 rfl (lv_at hl 1 rfl) ?_
    refine cbVi (n := 1) (rest := []) hx hb hml hown hts hE hP hD hS hA (sY_X11_isWord_1 NF l dC dI cy y0 r j1 v f w g hIv hCf hRf ) k_1601 k_1603 k_45 k_114 k_1604 (by decide +kernel) ⟨Nat.le_of_ble_eq_true rfl, Nat.le_of_ble_eq_true rfl⟩ 0 11 rfl rfl (rfl) hl.1 rfl (Nat.le_of_ble_eq_true rfl) dX11_want_10 (fun r2 u H locs hw hP hD hS => ?_)
    obtain ⟨hG3, hw⟩ := hw
    rcases hw with ⟨g4, g4_0⟩ | ⟨g4⟩
    · skip
      subst g4
      refine lv_if_ne (tgt := 24) hx hb dX11_want_13 (by decide) (fun _ => ?_) (fun c0 => absurd c0 (by decide))
      refine lv_aload_n hx hb dX11_want_24 rfl (lv_at hl 0 rfl) ?_
      refine cbVv (n := 0) (rest := []) hx hb hml hown hts hE hP hD hS hA (sY_X11_token_1 NF l dC dI cy y0 r  v f w g hIv hCf hRf ) k_1579 k_1581 k_42 k_114 k_1582 (by decide +kernel) ⟨Nat.le_of_ble_eq_true rfl, Nat.le_of_ble_eq_true rfl⟩ 0 11 rfl rfl (rfl) hl.1 rfl (Nat.le_of_ble_eq_true rfl) dX11_want_25 (fun u H locs hw hP hD hS => ?_)
      obtain ⟨hG5, hw⟩ := hw
      obtain ⟨v6, f7, w8, g9⟩ := u
      obtain ⟨kV_v6, kF_f7, hIv6, hCf7, hRf7, hk0_v6, hk1_v6, hk2_v6, hk4_v6, hk8_v6, hk9_v6, hk10_v6, hk13_v6, hk14_v6, hk15_v6, hk17_v6, hk18_v6, hk24_v6, hk25_v6, hk35_v6, hk36_v6, hk38_v6, hk39_v6, pv10, pv11, kq12, kq13, kq14⟩ := hw
      have hM_v6 : KV [1, 2, 3, 5, 6, 7] v6 v := KV.tr kV_v6 hM_v rfl
      have hA_f7 : KF [] f7 f := KF.tr kF_f7 hA_f rfl
      have hP : va_P (dC, dI) vwCl (YW cy y0 r v6 f7 w8 g9) H := hP
      have hD : va_D A (YW cy y0 r v6 f7 w8 g9) := hD
      have b3_v6 : 0 ≤ (v6 3).toInt ∧ (v6 3).toInt ≤ 1600 := YIb.b hIv6.1 3 (by decide)
      have pv10 : (v 3).toInt ≤ (v6 3).toInt := pv10
      have pv11 : (v6 5).toInt = (v 5).toInt ∨ (v 3).toInt < (v6 3).toInt ∨ ¬ (v6 5).toInt = 59 := pv11
      have hs2_f7 : f7 2 = (f 2) := kq12
      have hs3_f7 : f7 3 = (f 3) := kq13
      have hs6_f7 : f7 6 = (f 6) := kq14
      have hUv6 : (v6 35).toInt + (v6 36).toInt ≤ 40 := hIv6.2
      have hq0_v6 : v6 0 = (v 0) := hk0_v6
      have zq0_v6 := congrArg Int32.toInt hq0_v6
      have hq1_v6 : v6 1 = (v 1) := hk1_v6
      have zq1_v6 := congrArg Int32.toInt hq1_v6
      have hq8_v6 : v6 8 = (v 8) := hk8_v6
      have zq8_v6 := congrArg Int32.toInt hq8_v6
      have hq9_v6 : v6 9 = (v 9) := hk9_v6
      have zq9_v6 := congrArg Int32.toInt hq9_v6
      have hq10_v6 : v6 10 = (v 10) := hk10_v6
      have zq10_v6 := congrArg Int32.toInt hq10_v6
      have hq13_v6 : v6 13 = (v 13) := hk13_v6
      have zq13_v6 := congrArg Int32.toInt hq13_v6
      have hq14_v6 : v6 14 = (v 14) := hk14_v6
      have zq14_v6 := congrArg Int32.toInt hq14_v6
      have hq15_v6 : v6 15 = (v 15) := hk15_v6
      have zq15_v6 := congrArg Int32.toInt hq15_v6
      have hq17_v6 : v6 17 = (v 17) := hk17_v6
      have zq17_v6 := congrArg Int32.toInt hq17_v6
      have hq18_v6 : v6 18 = (v 18) := hk18_v6
      have zq18_v6 := congrArg Int32.toInt hq18_v6
      have hGR : GR (v 3).toInt (v 5).toInt (v6 3).toInt (v6 5).toInt := GR.tr hGR (show GR (v 3).toInt (v 5).toInt (v6 3).toInt (v6 5).toInt from ⟨pv10, pv11⟩) (by first | rfl | assumption | omega) (by first | rfl | assumption | omega)
      clear pv11
      exact ret (v6, f7, w8, g9) _ _ _ _ _ _ ⟨(gsY_X11_want_1_q0 c1 hG3 hG5), hM_v6, hA_f7, hIv6, hCf7, hRf7, hk0_v6, hk4_v6, hk8_v6, hk9_v6, hk10_v6, hk13_v6, hk14_v6, hk15_v6, hk17_v6, hk18_v6, hk24_v6, hk25_v6, hk35_v6, hk36_v6, hk38_v6, hk39_v6, (by show (v 3).toInt ≤ (v6 3).toInt; exact (GR.cast hGR (by first | rfl | assumption | omega) (by first | rfl | assumption | omega)).1), (by show (v6 5).toInt = (v 5).toInt ∨ (v 3).toInt < (v6 3).toInt ∨ ¬ (v6 5).toInt = 59; exact (GR.cast hGR (by first | rfl | assumption | omega) (by first | rfl | assumption | omega)).2), hs2_f7, hs3_f7, hs6_f7⟩ hP hD hS dX11_want_28 (Nat.le_refl _) (Nat.le_refl _)
    · skip
      subst g4
      refine lv_if_ne (tgt := 24) hx hb dX11_want_13 (by decide) (fun c0 => absurd (by decide) c0) (fun _ => ?_)
      refine lv_aload_n hx hb dX11_want_16 rfl (lv_at hl 0 rfl) ?_
      refine lv_iconst (v := 2) hx hb dX11_want_17 (by decide) ?_
      refine cbVv (n := 1) (rest := []) hx hb hml hown hts hE hP hD hS hA (sY_X11_wrong_1 NF l dC dI cy y0 r 2 v f w g hIv hCf hRf ⟨by decide, by decide⟩) k_1641 k_1643 k_50 k_114 k_1644 (by decide +kernel) ⟨Nat.le_of_ble_eq_true rfl, Nat.le_of_ble_eq_true rfl⟩ 0 11 rfl rfl (rfl) hl.1 rfl (Nat.le_of_ble_eq_true rfl) dX11_want_18 (fun u H locs hw hP hD hS => ?_)
      obtain ⟨hG15, hw⟩ := hw
      obtain ⟨v16, f17, w18, g19⟩ := u
      obtain ⟨kV_v16, kF_f17, hIv16, hCf17, hRf17, hk0_v16, hk3_v16, hk4_v16, hk5_v16, hk8_v16, hk9_v16, hk10_v16, hk13_v16, hk14_v16, hk15_v16, hk17_v16, hk18_v16, hk24_v16, hk25_v16, hk35_v16, hk36_v16, hk38_v16, hk39_v16, pv20, pv21, pv22, kq23, kq24, kq25⟩ := hw
      have hM_v16 : KV [1, 2, 3, 5, 6, 7] v16 v := KV.tr kV_v16 hM_v rfl
      have hA_f17 : KF [] f17 f := KF.tr kF_f17 hA_f rfl
      have hP : va_P (dC, dI) vwCl (YW cy y0 r v16 f17 w18 g19) H := hP
      have hD : va_D A (YW cy y0 r v16 f17 w18 g19) := hD
      have b3_v16 : 0 ≤ (v16 3).toInt ∧ (v16 3).toInt ≤ 1600 := YIb.b hIv16.1 3 (by decide)
      have b1_v16 : 0 ≤ (v16 1).toInt ∧ (v16 1).toInt ≤ 4 := YIb.b hIv16.1 1 (by decide)
      have pv20 : (v 3).toInt ≤ (v16 3).toInt := pv20
      have pv21 : (v16 5).toInt = (v 5).toInt ∨ (v 3).toInt < (v16 3).toInt ∨ ¬ (v16 5).toInt = 59 := pv21
      have pv22 : 0 < (v16 1).toInt := pv22
      have hs2_f17 : f17 2 = (f 2) := kq23
      have hs3_f17 : f17 3 = (f 3) := kq24
      have hs6_f17 : f17 6 = (f 6) := kq25
      have hUv16 : (v16 35).toInt + (v16 36).toInt ≤ 40 := hIv16.2
      have hq0_v16 : v16 0 = (v 0) := hk0_v16
      have zq0_v16 := congrArg Int32.toInt hq0_v16
      have hq3_v16 : v16 3 = (v 3) := hk3_v16
      have zq3_v16 := congrArg Int32.toInt hq3_v16
      have hq5_v16 : v16 5 = (v 5) := hk5_v16
      have zq5_v16 := congrArg Int32.toInt hq5_v16
      have hq8_v16 : v16 8 = (v 8) := hk8_v16
      have zq8_v16 := congrArg Int32.toInt hq8_v16
      have hq9_v16 : v16 9 = (v 9) := hk9_v16
      have zq9_v16 := congrArg Int32.toInt hq9_v16
      have hq10_v16 : v16 10 = (v 10) := hk10_v16
      have zq10_v16 := congrArg Int32.toInt hq10_v16
      have hq13_v16 : v16 13 = (v 13) := hk13_v16
      have zq13_v16 := congrArg Int32.toInt hq13_v16
      have hq14_v16 : v16 14 = (v 14) := hk14_v16
      have zq14_v16 := congrArg Int32.toInt hq14_v16
      have hq15_v16 : v16 15 = (v 15) := hk15_v16
      have zq15_v16 := congrArg Int32.toInt hq15_v16
      have hq17_v16 : v16 17 = (v 17) := hk17_v16
      have zq17_v16 := congrArg Int32.toInt hq17_v16
      have hq18_v16 : v16 18 = (v 18) := hk18_v16
      have zq18_v16 := congrArg Int32.toInt hq18_v16
      have hGR : GR (v 3).toInt (v 5).toInt (v16 3).toInt (v16 5).toInt := GR.tr hGR (show GR (v 3).toInt (v 5).toInt (v16 3).toInt (v16 5).toInt from ⟨pv20, pv21⟩) (by first | rfl | assumption | omega) (by first | rfl | assumption | omega)
      clear pv21
      refine lv_goto (tgt := 28) hx hb dX11_want_21 (by decide) ?_
      exact ret (v16, f17, w18, g19) _ _ _ _ _ _ ⟨(gsY_X11_want_1_q1 c1 hG3 hG15), hM_v16, hA_f17, hIv16, hCf17, hRf17, hk0_v16, hk4_v16, hk8_v16, hk9_v16, hk10_v16, hk13_v16, hk14_v16, hk15_v16, hk17_v16, hk18_v16, hk24_v16, hk25_v16, hk35_v16, hk36_v16, hk38_v16, hk39_v16, (by show (v 3).toInt ≤ (v16 3).toInt; exact (GR.cast hGR (by first | rfl | assumption | omega) (by first | rfl | assumption | omega)).1), (by show (v16 5).toInt = (v 5).toInt ∨ (v 3).toInt < (v16 3).toInt ∨ ¬ (v16 5).toInt = 59; exact (GR.cast hGR (by first | rfl | assumption | omega) (by first | rfl | assumption | omega)).2), hs2_f17, hs3_f17, hs6_f17⟩ hP hD hS dX11_want_28 (Nat.le_refl _) (Nat.le_refl _)
  · skip
    have zc1 : ¬ ((v 1).toInt ≤ 0) := by rw [fa_le, show (0 : Int32).toInt = 0 from by decide] at c1; exact c1
    exact ret (v, f, w, g) _ _ _ _ _ _ ⟨(gsY_X11_want_1_q2 c1), hM_v, hA_f, hIv, hCf, hRf, rfl, rfl, rfl, rfl, rfl, rfl, rfl, rfl, rfl, rfl, rfl, rfl, rfl, rfl, rfl, rfl, (by show (v 3).toInt ≤ (v 3).toInt; exact (GR.cast hGR (by first | rfl | assumption | omega) (by first | rfl | assumption | omega)).1), (by show (v 5).toInt = (v 5).toInt ∨ (v 3).toInt < (v 3).toInt ∨ ¬ (v 5).toInt = 59; exact (GR.cast hGR (by first | rfl | assumption | omega) (by first | rfl | assumption | omega)).2), rfl, rfl, rfl⟩ hP hD hS dX11_want_7 (Nat.le_refl _) (Nat.le_refl _)
