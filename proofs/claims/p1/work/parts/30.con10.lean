theorem pt_X10_back_559 (p1 : Int32) : ((-1) : Int32) = F_back p1 := by
  unfold F_back
  (repeat' split)
  all_goals first | rfl | assumption | (exfalso; simp only [fa_lt, fa_le, fa_eq, tl_m1] at *; omega) | (simp only [fa_lt, fa_le, fa_eq, tl_m1] at *; omega)
set_option maxHeartbeats 4000000 in
set_option maxRecDepth 100000 in
theorem cnX10_back_1 (l : Launch) (dC : Nat → ClassId) (dI : Nat → Nat → Nat) (cy : Nat → ClassId) (h0 : Nat) (h1 : Nat) (b0 : Nat) (b1 : Nat) (b2 : Nat) (b3 : Nat) (b4 : Nat) (b5 : Nat) (b6 : Nat) (b7 : Nat) (b8 : Nat) (b9 : Nat) (p1 : Int32) : ctI l (dC, dI) cy yX10_back cX10_back 2 .int 2 81 0 0 Unit [.ref h0, .int p1] [(h0, .inr (10, [.ref b0, .ref b1, .ref b2, .ref b3, .ref h1, .ref b4, .ref b5, .ref b6, .ref b7, .int 0])), (h1, .inr (5, [.ref b3, .ref b8, .ref b9, .int 0, .int 0, .int 0, .int 0]))] (fun r _ => r = F_back p1) (fun u => []) := by
  refine ctI_of (by decide) (Nat.le_of_ble_eq_true rfl) (fun p e s m below meth c A ls Q hx hb hml hts hown hE hP hD hA hl ret => ?_)
  have hown : s.vm.findClass RX10 = some m.cls := hown
  have hS : va_S A s.heap s.heap [] := va_S.rf
  have hl : lv_has ls 2 [(0, .ref h0), (1, .int p1)] := hl
  refine lv_aload_n hx hb dX10_back_0 rfl (lv_at hl 0 rfl) ?_
  refine va_get (D := (dC, dI)) (ci := 10) (v := .ref h1) (C := RX10) (T := TX10) (N := 10) hx hb hts inB_10 hown hE.1 hP 0 rfl rfl 4 (by decide) (hts _ k_495) (fun _ h9 => h9) rfl dX10_back_1 ?_
  refine lv_iload_n hx hb dX10_back_4 rfl (lv_at hl 1 rfl) ?_
  refine caVi (n := 1) (wr := [(h0, .inr (10, [.ref b0, .ref b1, .ref b2, .ref b3, .ref h1, .ref b4, .ref b5, .ref b6, .ref b7, .int 0]))]) (rest := []) hx hb hml hown hts hE hP hD hS hA (cnX5_takeBox_1 l dC dI cy h1 b3 b8 b9 p1) k_1302 k_1303 k_1304 k_107 k_1305 (by decide +kernel) ⟨Nat.le_of_ble_eq_true rfl, Nat.le_of_ble_eq_true rfl⟩ [1] [0] rfl rfl rfl (by decide) (by decide) (by decide) 0 5 rfl rfl rfl hl.1 rfl (Nat.le_of_ble_eq_true rfl) dX10_back_5 ⟨Nat.le_of_ble_eq_true rfl, Nat.le_of_ble_eq_true rfl⟩ (fun rr u H locs hw hP hD hS => ?_)
  have hP : va_P (dC, dI) vwCl [(h0, .inr (10, [.ref b0, .ref b1, .ref b2, .ref b3, .ref h1, .ref b4, .ref b5, .ref b6, .ref b7, .int 0])), (h1, .inr (5, [.ref b3, .ref b8, .ref b9, .int 0, .int 0, .int 0, .int 0]))] H := hP
  have hD : va_D A [(h0, .inr (10, [.ref b0, .ref b1, .ref b2, .ref b3, .ref h1, .ref b4, .ref b5, .ref b6, .ref b7, .int 0])), (h1, .inr (5, [.ref b3, .ref b8, .ref b9, .int 0, .int 0, .int 0, .int 0]))] := hD
  refine tI (y := 0) hw ?_
  refine lv_if_eq (tgt := 21) hx hb dX10_back_8 (by decide) (fun _ => ?_) (fun c0 => absurd (by decide) c0)
  refine lv_iconst (v := (-1)) hx hb dX10_back_21 (by decide) ?_
  exact ret (-1) () _ _ _ _ _ _ rfl (pt_X10_back_559 p1) (hP.sub [] rfl) (hD.sub [] (by decide) rfl) hS dX10_back_22 (Nat.le_of_ble_eq_true rfl) (Nat.le_of_ble_eq_true rfl)
theorem pt_X11_back_560 : ((-1) : Int32) = F_back 0 := by
  unfold F_back
  (repeat' split)
  all_goals first | rfl | assumption | (exfalso; simp only [fa_lt, fa_le, fa_eq, tl_m1, show (0 : Int32).toInt = 0 from by decide] at *; omega) | (simp only [fa_lt, fa_le, fa_eq, tl_m1, show (0 : Int32).toInt = 0 from by decide] at *; omega)
theorem pt_X11_back_561 : ((-1) : Int32) = F_back 1 := by
  unfold F_back
  (repeat' split)
  all_goals first | rfl | assumption | (exfalso; simp only [fa_lt, fa_le, fa_eq, tl_m1, show (1 : Int32).toInt = 1 from by decide] at *; omega) | (simp only [fa_lt, fa_le, fa_eq, tl_m1, show (1 : Int32).toInt = 1 from by decide] at *; omega)
theorem po_X11_back_562 (p1 : Int32) (c1 : 0 ≤ p1 ∧ p1 ≤ 2) (c1 : 0 ≤ p1 ∧ p1 ≤ 2) (c2 : ¬ p1 = 0) (c3 : ¬ p1 = 1) : p1 = 2 := by simp only [fa_lt, fa_le, fa_eq, tl_0, tl_1, tl_2] at *; omega
theorem pt_X11_back_563 : ((-1) : Int32) = F_back 2 := by
  unfold F_back
  (repeat' split)
  all_goals first | rfl | assumption | (exfalso; simp only [fa_lt, fa_le, fa_eq, tl_m1, show (2 : Int32).toInt = 2 from by decide] at *; omega) | (simp only [fa_lt, fa_le, fa_eq, tl_m1, show (2 : Int32).toInt = 2 from by decide] at *; omega)
theorem pt_X11_back_564 (p1 : Int32) (c1 : ¬ (0 ≤ p1 ∧ p1 ≤ 2)) : ((-1) : Int32) = F_back p1 := by
  unfold F_back
  (repeat' split)
  all_goals first | rfl | assumption | (exfalso; simp only [fa_lt, fa_le, fa_eq, tl_m1, tl_0, tl_2] at *; omega) | (simp only [fa_lt, fa_le, fa_eq, tl_m1, tl_0, tl_2] at *; omega)
set_option maxHeartbeats 4000000 in
set_option maxRecDepth 100000 in
theorem cnX11_back_1 (l : Launch) (dC : Nat → ClassId) (dI : Nat → Nat → Nat) (cy : Nat → ClassId) (h0 : Nat) (r : Nat → Nat) (p1 : Int32) : ctI l (dC, dI) cy yX11_back cX11_back 3 .int 2 80 0 0 Unit [.ref h0, .int p1] [(h0, .inr (11, mFs r mv0)), ((r 77), .inl (cy 3, 3, .inl zF))] (fun r _ => r = F_back p1) (fun u => []) := by
  refine ctI_of (by decide) (Nat.le_of_ble_eq_true rfl) (fun p e s m below meth c A ls Q hx hb hml hts hown hE hP hD hA hl ret => ?_)
  have hown : s.vm.findClass RX11 = some m.cls := hown
  have hS : va_S A s.heap s.heap [] := va_S.rf
  have hl : lv_has ls 3 [(0, .ref h0), (1, .int p1)] := hl
  refine lv_iload_n hx hb dX11_back_0 rfl (lv_at hl 1 rfl) ?_
  by_cases c1 : (0 ≤ p1 ∧ p1 ≤ 2)
  · skip
    refine caSi (n := 1) (wr := [(h0, .inr (11, mFs r mv0)), ((r 77), .inl (cy 3, 3, .inl zF))]) (rest := []) hx hb hml hown hts hE hP hD hS hA (cnX11_isBox_1 l dC dI cy p1 c1) k_2048 k_2049 k_114 k_2050 (by decide +kernel) ⟨Nat.le_of_ble_eq_true rfl, Nat.le_of_ble_eq_true rfl⟩ [] [0, 1] rfl rfl rfl (by decide) (by decide) (by decide) rfl hl.1 rfl (Nat.le_of_ble_eq_true rfl) dX11_back_1 ⟨Nat.le_of_ble_eq_true rfl, Nat.le_of_ble_eq_true rfl⟩ (fun rr u H locs hw hP hD hS => ?_)
    have hP : va_P (dC, dI) vwCl [(h0, .inr (11, mFs r mv0)), ((r 77), .inl (cy 3, 3, .inl zF))] H := hP
    have hD : va_D A [(h0, .inr (11, mFs r mv0)), ((r 77), .inl (cy 3, 3, .inl zF))] := hD
    refine tI (y := 1) hw ?_
    refine lv_if_eq (tgt := 16) hx hb dX11_back_4 (by decide) (fun c0 => absurd c0 (by decide)) (fun _ => ?_)
    refine lv_aload_n hx hb dX11_back_7 rfl (lv_at hl 0 rfl) ?_
    refine va_get (D := (dC, dI)) (ci := 11) (v := .ref (r 77)) (C := RX11) (T := TX11) (N := 79) hx hb hts inB_11 hown hE.1 hP 0 rfl rfl 77 (by decide) (hts _ k_1397) (fun _ h9 => h9) rfl dX11_back_8 ?_
    refine lv_iload_n hx hb dX11_back_11 rfl (lv_at hl 1 rfl) ?_
    by_cases c2 : p1 = 0
    · skip
      subst c2
      refine ldZ (k := 0) (v := 0) hx hb hE hP 1 rfl (vp_in_nI (n := 0) (by decide) (by decide)) (nI_clamp (n := 0) (by decide)) rfl dX11_back_12 ?_
      refine lv_if_ne (tgt := 18) hx hb dX11_back_13 (by decide) (fun c0 => absurd (by decide) c0) (fun _ => ?_)
      refine lv_iconst (v := (-1)) hx hb dX11_back_16 (by decide) ?_
      exact ret (-1) () _ _ _ _ _ _ rfl (pt_X11_back_560 ) (hP.sub [] rfl) (hD.sub [] (by decide) rfl) hS dX11_back_17 (Nat.le_of_ble_eq_true rfl) (Nat.le_of_ble_eq_true rfl)
    · skip
      by_cases c3 : p1 = 1
      · skip
        subst c3
        refine ldZ (k := 1) (v := 0) hx hb hE hP 1 rfl (vp_in_nI (n := 1) (by decide) (by decide)) (nI_clamp (n := 1) (by decide)) rfl dX11_back_12 ?_
        refine lv_if_ne (tgt := 18) hx hb dX11_back_13 (by decide) (fun c0 => absurd (by decide) c0) (fun _ => ?_)
        refine lv_iconst (v := (-1)) hx hb dX11_back_16 (by decide) ?_
        exact ret (-1) () _ _ _ _ _ _ rfl (pt_X11_back_561 ) (hP.sub [] rfl) (hD.sub [] (by decide) rfl) hS dX11_back_17 (Nat.le_of_ble_eq_true rfl) (Nat.le_of_ble_eq_true rfl)
      · skip
        have c4 : p1 = 2 := (po_X11_back_562 p1 c1 c1 c2 c3)
        subst c4
        refine ldZ (k := 2) (v := 0) hx hb hE hP 1 rfl (vp_in_nI (n := 2) (by decide) (by decide)) (nI_clamp (n := 2) (by decide)) rfl dX11_back_12 ?_
        refine lv_if_ne (tgt := 18) hx hb dX11_back_13 (by decide) (fun c0 => absurd (by decide) c0) (fun _ => ?_)
        refine lv_iconst (v := (-1)) hx hb dX11_back_16 (by decide) ?_
        exact ret (-1) () _ _ _ _ _ _ rfl (pt_X11_back_563 ) (hP.sub [] rfl) (hD.sub [] (by decide) rfl) hS dX11_back_17 (Nat.le_of_ble_eq_true rfl) (Nat.le_of_ble_eq_true rfl)
  · skip
    refine caSi (n := 1) (wr := [(h0, .inr (11, mFs r mv0)), ((r 77), .inl (cy 3, 3, .inl zF))]) (rest := []) hx hb hml hown hts hE hP hD hS hA (cnX11_isBox_2 l dC dI cy p1 c1) k_2048 k_2049 k_114 k_2050 (by decide +kernel) ⟨Nat.le_of_ble_eq_true rfl, Nat.le_of_ble_eq_true rfl⟩ [] [0, 1] rfl rfl rfl (by decide) (by decide) (by decide) rfl hl.1 rfl (Nat.le_of_ble_eq_true rfl) dX11_back_1 ⟨Nat.le_of_ble_eq_true rfl, Nat.le_of_ble_eq_true rfl⟩ (fun rr u H locs hw hP hD hS => ?_)
    have hP : va_P (dC, dI) vwCl [(h0, .inr (11, mFs r mv0)), ((r 77), .inl (cy 3, 3, .inl zF))] H := hP
    have hD : va_D A [(h0, .inr (11, mFs r mv0)), ((r 77), .inl (cy 3, 3, .inl zF))] := hD
    refine tI (y := 0) hw ?_
    refine lv_if_eq (tgt := 16) hx hb dX11_back_4 (by decide) (fun _ => ?_) (fun c0 => absurd (by decide) c0)
    refine lv_iconst (v := (-1)) hx hb dX11_back_16 (by decide) ?_
    exact ret (-1) () _ _ _ _ _ _ rfl (pt_X11_back_564 p1 c1) (hP.sub [] rfl) (hD.sub [] (by decide) rfl) hS dX11_back_17 (Nat.le_of_ble_eq_true rfl) (Nat.le_of_ble_eq_true rfl)
set_option maxHeartbeats 4000000 in
set_option maxRecDepth 100000 in
theorem cnX1_seed_1 (l : Launch) (dC : Nat → ClassId) (dI : Nat → Nat → Nat) (cy : Nat → ClassId) (h0 : Nat) (h1 : Nat) (b0 : Nat) : ctI l (dC, dI) cy yX1_seed cX1_seed 1 .int 1 60 0 0 Unit [.ref h0] [(h0, .inr (1, [.ref b0, .ref h1])), (h1, .inl (cy 1, 44, .inl cF))] (fun r _ => r = 0) (fun u => [(h0, .inr (1, [.ref b0, .ref h1])), (h1, .inl (cy 1, 44, .inl cF))]) := by
  refine ctI_of (by decide) (Nat.le_of_ble_eq_true rfl) (fun p e s m below meth c A ls Q hx hb hml hts hown hE hP hD hA hl ret => ?_)
  have hown : s.vm.findClass RX1 = some m.cls := hown
  have hS : va_S A s.heap s.heap [] := va_S.rf
  have hl : lv_has ls 1 [(0, .ref h0)] := hl
  refine lv_aload_n hx hb dX1_seed_0 rfl (lv_at hl 0 rfl) ?_
  refine va_get (D := (dC, dI)) (ci := 1) (v := .ref h1) (C := RX1) (T := TX1) (N := 2) hx hb hts inB_1 hown hE.1 hP 0 rfl rfl 1 (by decide) (hts _ k_319) (fun _ h9 => h9) rfl dX1_seed_1 ?_
  refine lv_bipush (v := 43) hx hb dX1_seed_4 (by decide) ?_
  refine ldI (k := 43) (v := 0) hx hb hE hP 1 rfl (vp_in_nI (n := 43) (by decide) (by decide)) (nI_clamp (n := 43) (by decide)) (by decide) dX1_seed_6 ?_
  exact ret 0 () _ _ _ _ _ _ rfl rfl (hP.sub [0, 1] rfl) (hD.sub [0, 1] (by decide) rfl) hS dX1_seed_7 (Nat.le_of_ble_eq_true rfl) (Nat.le_of_ble_eq_true rfl)
theorem pt_X10_about_565 (p1 : Int32) (c1 : p1 = 0) : (0 : Int32) = F_about p1 := by
  unfold F_about
  (repeat' split)
  all_goals first | rfl | assumption | (exfalso; simp only [fa_lt, fa_le, fa_eq, tl_m1, tl_0, tl_2, tl_3, tl_4, tl_10, tl_13, tl_150] at *; omega) | (simp only [fa_lt, fa_le, fa_eq, tl_m1, tl_0, tl_2, tl_3, tl_4, tl_10, tl_13, tl_150] at *; omega)
theorem pt_X10_about_566 (p1 : Int32) (c1 : ¬ p1 = 0) (c2 : p1 = 1) : (0 : Int32) = F_about p1 := by
  unfold F_about
  (repeat' split)
  all_goals first | rfl | assumption | (exfalso; simp only [fa_lt, fa_le, fa_eq, tl_m1, tl_0, tl_1, tl_2, tl_3, tl_4, tl_10, tl_13, tl_150] at *; omega) | (simp only [fa_lt, fa_le, fa_eq, tl_m1, tl_0, tl_1, tl_2, tl_3, tl_4, tl_10, tl_13, tl_150] at *; omega)
theorem pt_X10_about_567 (p1 : Int32) (c1 : ¬ p1 = 0) (c2 : ¬ p1 = 1) (c3 : p1 = 2) : (10 : Int32) = F_about p1 := by
  unfold F_about
  (repeat' split)
  all_goals first | rfl | assumption | (exfalso; simp only [fa_lt, fa_le, fa_eq, tl_m1, tl_0, tl_1, tl_2, tl_3, tl_4, tl_10, tl_13, tl_150] at *; omega) | (simp only [fa_lt, fa_le, fa_eq, tl_m1, tl_0, tl_1, tl_2, tl_3, tl_4, tl_10, tl_13, tl_150] at *; omega)
theorem pt_X10_about_568 (p1 : Int32) (c1 : ¬ p1 = 0) (c2 : ¬ p1 = 1) (c3 : ¬ p1 = 2) (c4 : p1 = 3) : (150 : Int32) = F_about p1 := by
  unfold F_about
  (repeat' split)
  all_goals first | rfl | assumption | (exfalso; simp only [fa_lt, fa_le, fa_eq, tl_m1, tl_0, tl_1, tl_2, tl_3, tl_4, tl_10, tl_13, tl_150] at *; omega) | (simp only [fa_lt, fa_le, fa_eq, tl_m1, tl_0, tl_1, tl_2, tl_3, tl_4, tl_10, tl_13, tl_150] at *; omega)
theorem pt_X10_about_569 (p1 : Int32) (c1 : ¬ p1 = 0) (c2 : ¬ p1 = 1) (c3 : ¬ p1 = 2) (c4 : ¬ p1 = 3) (c5 : p1 = 4) : (2 : Int32) = F_about p1 := by
  unfold F_about
  (repeat' split)
  all_goals first | rfl | assumption | (exfalso; simp only [fa_lt, fa_le, fa_eq, tl_m1, tl_0, tl_1, tl_2, tl_3, tl_4, tl_10, tl_13, tl_150] at *; omega) | (simp only [fa_lt, fa_le, fa_eq, tl_m1, tl_0, tl_1, tl_2, tl_3, tl_4, tl_10, tl_13, tl_150] at *; omega)
theorem pt_X10_about_570 (p1 : Int32) (c1 : ¬ p1 = 0) (c2 : ¬ p1 = 1) (c3 : ¬ p1 = 2) (c4 : ¬ p1 = 3) (c5 : ¬ p1 = 4) (c6 : p1 = 5) : (0 : Int32) = F_about p1 := by
  unfold F_about
  (repeat' split)
  all_goals first | rfl | assumption | (exfalso; simp only [fa_lt, fa_le, fa_eq, tl_m1, tl_0, tl_1, tl_2, tl_3, tl_4, tl_5, tl_10, tl_13, tl_150] at *; omega) | (simp only [fa_lt, fa_le, fa_eq, tl_m1, tl_0, tl_1, tl_2, tl_3, tl_4, tl_5, tl_10, tl_13, tl_150] at *; omega)
theorem pt_X10_about_571 (p1 : Int32) (c1 : ¬ p1 = 0) (c2 : ¬ p1 = 1) (c3 : ¬ p1 = 2) (c4 : ¬ p1 = 3) (c5 : ¬ p1 = 4) (c6 : ¬ p1 = 5) (c7 : p1 = 6) : (0 : Int32) = F_about p1 := by
  unfold F_about
  (repeat' split)
  all_goals first | rfl | assumption | (exfalso; simp only [fa_lt, fa_le, fa_eq, tl_m1, tl_0, tl_1, tl_2, tl_3, tl_4, tl_5, tl_6, tl_10, tl_13, tl_150] at *; omega) | (simp only [fa_lt, fa_le, fa_eq, tl_m1, tl_0, tl_1, tl_2, tl_3, tl_4, tl_5, tl_6, tl_10, tl_13, tl_150] at *; omega)
theorem pt_X10_about_572 (p1 : Int32) (c1 : ¬ p1 = 0) (c2 : ¬ p1 = 1) (c3 : ¬ p1 = 2) (c4 : ¬ p1 = 3) (c5 : ¬ p1 = 4) (c6 : ¬ p1 = 5) (c7 : ¬ p1 = 6) (c8 : p1 = 7) : (0 : Int32) = F_about p1 := by
  unfold F_about
  (repeat' split)
  all_goals first | rfl | assumption | (exfalso; simp only [fa_lt, fa_le, fa_eq, tl_m1, tl_0, tl_1, tl_2, tl_3, tl_4, tl_5, tl_6, tl_7, tl_10, tl_13, tl_150] at *; omega) | (simp only [fa_lt, fa_le, fa_eq, tl_m1, tl_0, tl_1, tl_2, tl_3, tl_4, tl_5, tl_6, tl_7, tl_10, tl_13, tl_150] at *; omega)
theorem pt_X10_about_573 (p1 : Int32) (c1 : ¬ p1 = 0) (c2 : ¬ p1 = 1) (c3 : ¬ p1 = 2) (c4 : ¬ p1 = 3) (c5 : ¬ p1 = 4) (c6 : ¬ p1 = 5) (c7 : ¬ p1 = 6) (c8 : ¬ p1 = 7) (c9 : p1 = 8) : (0 : Int32) = F_about p1 := by
  unfold F_about
  (repeat' split)
  all_goals first | rfl | assumption | (exfalso; simp only [fa_lt, fa_le, fa_eq, tl_m1, tl_0, tl_1, tl_2, tl_3, tl_4, tl_5, tl_6, tl_7, tl_8, tl_10, tl_13, tl_150] at *; omega) | (simp only [fa_lt, fa_le, fa_eq, tl_m1, tl_0, tl_1, tl_2, tl_3, tl_4, tl_5, tl_6, tl_7, tl_8, tl_10, tl_13, tl_150] at *; omega)
theorem pt_X10_about_574 (p1 : Int32) (c1 : ¬ p1 = 0) (c2 : ¬ p1 = 1) (c3 : ¬ p1 = 2) (c4 : ¬ p1 = 3) (c5 : ¬ p1 = 4) (c6 : ¬ p1 = 5) (c7 : ¬ p1 = 6) (c8 : ¬ p1 = 7) (c9 : ¬ p1 = 8) (c10 : p1 = 9) : (0 : Int32) = F_about p1 := by
  unfold F_about
  (repeat' split)
  all_goals first | rfl | assumption | (exfalso; simp only [fa_lt, fa_le, fa_eq, tl_m1, tl_0, tl_1, tl_2, tl_3, tl_4, tl_5, tl_6, tl_7, tl_8, tl_9, tl_10, tl_13, tl_150] at *; omega) | (simp only [fa_lt, fa_le, fa_eq, tl_m1, tl_0, tl_1, tl_2, tl_3, tl_4, tl_5, tl_6, tl_7, tl_8, tl_9, tl_10, tl_13, tl_150] at *; omega)
theorem pt_X10_about_575 (p1 : Int32) (c1 : ¬ p1 = 0) (c2 : ¬ p1 = 1) (c3 : ¬ p1 = 2) (c4 : ¬ p1 = 3) (c5 : ¬ p1 = 4) (c6 : ¬ p1 = 5) (c7 : ¬ p1 = 6) (c8 : ¬ p1 = 7) (c9 : ¬ p1 = 8) (c10 : ¬ p1 = 9) (c11 : p1 = 10) : (0 : Int32) = F_about p1 := by
  unfold F_about
  (repeat' split)
  all_goals first | rfl | assumption | (exfalso; simp only [fa_lt, fa_le, fa_eq, tl_m1, tl_0, tl_1, tl_2, tl_3, tl_4, tl_5, tl_6, tl_7, tl_8, tl_9, tl_10, tl_13, tl_150] at *; omega) | (simp only [fa_lt, fa_le, fa_eq, tl_m1, tl_0, tl_1, tl_2, tl_3, tl_4, tl_5, tl_6, tl_7, tl_8, tl_9, tl_10, tl_13, tl_150] at *; omega)
theorem pt_X10_about_576 (p1 : Int32) (c1 : ¬ p1 = 0) (c2 : ¬ p1 = 1) (c3 : ¬ p1 = 2) (c4 : ¬ p1 = 3) (c5 : ¬ p1 = 4) (c6 : ¬ p1 = 5) (c7 : ¬ p1 = 6) (c8 : ¬ p1 = 7) (c9 : ¬ p1 = 8) (c10 : ¬ p1 = 9) (c11 : ¬ p1 = 10) (c12 : p1 = 11) : (0 : Int32) = F_about p1 := by
  unfold F_about
  (repeat' split)
  all_goals first | rfl | assumption | (exfalso; simp only [fa_lt, fa_le, fa_eq, tl_m1, tl_0, tl_1, tl_2, tl_3, tl_4, tl_5, tl_6, tl_7, tl_8, tl_9, tl_10, tl_11, tl_13, tl_150] at *; omega) | (simp only [fa_lt, fa_le, fa_eq, tl_m1, tl_0, tl_1, tl_2, tl_3, tl_4, tl_5, tl_6, tl_7, tl_8, tl_9, tl_10, tl_11, tl_13, tl_150] at *; omega)
theorem pt_X10_about_577 (p1 : Int32) (c1 : ¬ p1 = 0) (c2 : ¬ p1 = 1) (c3 : ¬ p1 = 2) (c4 : ¬ p1 = 3) (c5 : ¬ p1 = 4) (c6 : ¬ p1 = 5) (c7 : ¬ p1 = 6) (c8 : ¬ p1 = 7) (c9 : ¬ p1 = 8) (c10 : ¬ p1 = 9) (c11 : ¬ p1 = 10) (c12 : ¬ p1 = 11) (c13 : p1 = 12) : (0 : Int32) = F_about p1 := by
  unfold F_about
  (repeat' split)
  all_goals first | rfl | assumption | (exfalso; simp only [fa_lt, fa_le, fa_eq, tl_m1, tl_0, tl_1, tl_2, tl_3, tl_4, tl_5, tl_6, tl_7, tl_8, tl_9, tl_10, tl_11, tl_12, tl_13, tl_150] at *; omega) | (simp only [fa_lt, fa_le, fa_eq, tl_m1, tl_0, tl_1, tl_2, tl_3, tl_4, tl_5, tl_6, tl_7, tl_8, tl_9, tl_10, tl_11, tl_12, tl_13, tl_150] at *; omega)
theorem pt_X10_about_578 (p1 : Int32) (c1 : ¬ p1 = 0) (c2 : ¬ p1 = 1) (c3 : ¬ p1 = 2) (c4 : ¬ p1 = 3) (c5 : ¬ p1 = 4) (c6 : ¬ p1 = 5) (c7 : ¬ p1 = 6) (c8 : ¬ p1 = 7) (c9 : ¬ p1 = 8) (c10 : ¬ p1 = 9) (c11 : ¬ p1 = 10) (c12 : ¬ p1 = 11) (c13 : ¬ p1 = 12) (c14 : p1 = 13) : (0 : Int32) = F_about p1 := by
  unfold F_about
  (repeat' split)
  all_goals first | rfl | assumption | (exfalso; simp only [fa_lt, fa_le, fa_eq, tl_m1, tl_0, tl_1, tl_2, tl_3, tl_4, tl_5, tl_6, tl_7, tl_8, tl_9, tl_10, tl_11, tl_12, tl_13, tl_150] at *; omega) | (simp only [fa_lt, fa_le, fa_eq, tl_m1, tl_0, tl_1, tl_2, tl_3, tl_4, tl_5, tl_6, tl_7, tl_8, tl_9, tl_10, tl_11, tl_12, tl_13, tl_150] at *; omega)
theorem po_X10_about_579 (p1 : Int32) (c1 : ¬ p1 = 0) (c2 : ¬ p1 = 1) (c3 : ¬ p1 = 2) (c4 : ¬ p1 = 3) (c5 : ¬ p1 = 4) (c6 : ¬ p1 = 5) (c7 : ¬ p1 = 6) (c8 : ¬ p1 = 7) (c9 : ¬ p1 = 8) (c10 : ¬ p1 = 9) (c11 : ¬ p1 = 10) (c12 : ¬ p1 = 11) (c13 : ¬ p1 = 12) (c14 : ¬ p1 = 13) : p1.toInt < 0 ∨ 13 < p1.toInt := by simp only [fa_lt, fa_le, fa_eq, tl_0, tl_1, tl_2, tl_3, tl_4, tl_5, tl_6, tl_7, tl_8, tl_9, tl_10, tl_11, tl_12, tl_13] at *; omega
theorem pt_X10_about_580 (p1 : Int32) (c1 : ¬ p1 = 0) (c2 : ¬ p1 = 1) (c3 : ¬ p1 = 2) (c4 : ¬ p1 = 3) (c5 : ¬ p1 = 4) (c6 : ¬ p1 = 5) (c7 : ¬ p1 = 6) (c8 : ¬ p1 = 7) (c9 : ¬ p1 = 8) (c10 : ¬ p1 = 9) (c11 : ¬ p1 = 10) (c12 : ¬ p1 = 11) (c13 : ¬ p1 = 12) (c14 : ¬ p1 = 13) : ((-1) : Int32) = F_about p1 := by
  unfold F_about
  (repeat' split)
  all_goals first | rfl | assumption | (exfalso; simp only [fa_lt, fa_le, fa_eq, tl_m1, tl_0, tl_1, tl_2, tl_3, tl_4, tl_5, tl_6, tl_7, tl_8, tl_9, tl_10, tl_11, tl_12, tl_13, tl_150] at *; omega) | (simp only [fa_lt, fa_le, fa_eq, tl_m1, tl_0, tl_1, tl_2, tl_3, tl_4, tl_5, tl_6, tl_7, tl_8, tl_9, tl_10, tl_11, tl_12, tl_13, tl_150] at *; omega)
set_option maxHeartbeats 4000000 in
set_option maxRecDepth 100000 in
theorem cnX10_about_1 (l : Launch) (dC : Nat → ClassId) (dI : Nat → Nat → Nat) (cy : Nat → ClassId) (h0 : Nat) (h1 : Nat) (h2 : Nat) (h3 : Nat) (h4 : Nat) (h5 : Nat) (h6 : Nat) (h7 : Nat) (h8 : Nat) (b0 : Nat) (b1 : Nat) (b2 : Nat) (b3 : Nat) (b4 : Nat) (b5 : Nat) (b6 : Nat) (b7 : Nat) (b8 : Nat) (b9 : Nat) (b10 : Nat) (b11 : Nat) (b12 : Nat) (b13 : Nat) (b14 : Nat) (b15 : Nat) (b16 : Nat) (b17 : Nat) (b18 : Nat) (b19 : Nat) (p1 : Int32) : ctI l (dC, dI) cy yX10_about cX10_about 2 .int 2 80 0 0 Unit [.ref h0, .int p1] [(h0, .inr (10, [.ref h6, .ref b0, .ref h1, .ref h2, .ref h4, .ref b1, .ref b2, .ref h8, .ref h5, .int 0])), (h1, .inr (7, [.ref b3, .ref b4, .ref h7, .int 0, .int 0, .int 10, .int 150, .int 2, .int 0, .int 0])), (h2, .inr (1, [.ref h1, .ref h3])), (h3, .inl (cy 1, 44, .inl cF)), (h4, .inr (5, [.ref h2, .ref b5, .ref b6, .int 0, .int 0, .int 0, .int 0])), (h5, .inr (8, [.ref h1, .ref b7, .ref b8, .ref b9, .ref b10, .int 0, .ref b11])), (h6, .inr (9, [.ref b12, .int 0, .int 0, .int 0, .int 0, .int 0])), (h7, .inr (4, [.ref b13, .ref b14, .ref b15, .ref b16, .int 0, .int 0])), (h8, .inr (0, [.ref h1, .ref h2, .ref b17, .int 0, .ref b18, .ref b19, .int 0, .int 0]))] (fun r _ => r = F_about p1) (fun u => []) := by
  refine ctI_of (by decide) (Nat.le_of_ble_eq_true rfl) (fun p e s m below meth c A ls Q hx hb hml hts hown hE hP hD hA hl ret => ?_)
  have hown : s.vm.findClass RX10 = some m.cls := hown
  have hS : va_S A s.heap s.heap [] := va_S.rf
  have hl : lv_has ls 2 [(0, .ref h0), (1, .int p1)] := hl
  refine lv_iload_n hx hb dX10_about_0 rfl (lv_at hl 1 rfl) ?_
  by_cases c1 : p1 = 0
  · skip
    refine lv_tableIn (off := 71) (tgt := 72) hx hb dX10_about_1 (by rw [c1]; decide) (by rw [c1]; decide) (by rw [c1]; decide) (by decide) ?_
    refine lv_aload_n hx hb dX10_about_72 rfl (lv_at hl 0 rfl) ?_
    refine va_get (D := (dC, dI)) (ci := 10) (v := .ref h1) (C := RX10) (T := TX10) (N := 10) hx hb hts inB_10 hown hE.1 hP 0 rfl rfl 2 (by decide) (hts _ k_493) (fun _ h9 => h9) rfl dX10_about_73 ?_
    refine va_getN (D := (dC, dI)) (ci := 7) (v := .int 0) (C := RX7) (T := TX7) (N := 10) hx hb hts inB_7 hown hE.1 hP 1 rfl rfl 3 (by decide) (va_Nw.use rfl (hE.2 _ k_214)) (fun _ h9 => h9) rfl dX10_about_76 ?_
    exact ret 0 () _ _ _ _ _ _ rfl (pt_X10_about_565 p1 c1) (hP.sub [] rfl) (hD.sub [] (by decide) rfl) hS dX10_about_79 (Nat.le_of_ble_eq_true rfl) (Nat.le_of_ble_eq_true rfl)
  · skip
    by_cases c2 : p1 = 1
    · skip
      refine lv_tableIn (off := 79) (tgt := 80) hx hb dX10_about_1 (by rw [c2]; decide) (by rw [c2]; decide) (by rw [c2]; decide) (by decide) ?_
      refine lv_aload_n hx hb dX10_about_80 rfl (lv_at hl 0 rfl) ?_
      refine va_get (D := (dC, dI)) (ci := 10) (v := .ref h1) (C := RX10) (T := TX10) (N := 10) hx hb hts inB_10 hown hE.1 hP 0 rfl rfl 2 (by decide) (hts _ k_493) (fun _ h9 => h9) rfl dX10_about_81 ?_
      refine va_getN (D := (dC, dI)) (ci := 7) (v := .int 0) (C := RX7) (T := TX7) (N := 10) hx hb hts inB_7 hown hE.1 hP 1 rfl rfl 4 (by decide) (va_Nw.use rfl (hE.2 _ k_227)) (fun _ h9 => h9) rfl dX10_about_84 ?_
      exact ret 0 () _ _ _ _ _ _ rfl (pt_X10_about_566 p1 c1 c2) (hP.sub [] rfl) (hD.sub [] (by decide) rfl) hS dX10_about_87 (Nat.le_of_ble_eq_true rfl) (Nat.le_of_ble_eq_true rfl)
    · skip
      by_cases c3 : p1 = 2
      · skip
        refine lv_tableIn (off := 87) (tgt := 88) hx hb dX10_about_1 (by rw [c3]; decide) (by rw [c3]; decide) (by rw [c3]; decide) (by decide) ?_
        refine lv_aload_n hx hb dX10_about_88 rfl (lv_at hl 0 rfl) ?_
        refine va_get (D := (dC, dI)) (ci := 10) (v := .ref h1) (C := RX10) (T := TX10) (N := 10) hx hb hts inB_10 hown hE.1 hP 0 rfl rfl 2 (by decide) (hts _ k_493) (fun _ h9 => h9) rfl dX10_about_89 ?_
        refine va_getN (D := (dC, dI)) (ci := 7) (v := .int 10) (C := RX7) (T := TX7) (N := 10) hx hb hts inB_7 hown hE.1 hP 1 rfl rfl 5 (by decide) (va_Nw.use rfl (hE.2 _ k_233)) (fun _ h9 => h9) rfl dX10_about_92 ?_
        exact ret 10 () _ _ _ _ _ _ rfl (pt_X10_about_567 p1 c1 c2 c3) (hP.sub [] rfl) (hD.sub [] (by decide) rfl) hS dX10_about_95 (Nat.le_of_ble_eq_true rfl) (Nat.le_of_ble_eq_true rfl)
      · skip
        by_cases c4 : p1 = 3
        · skip
          refine lv_tableIn (off := 95) (tgt := 96) hx hb dX10_about_1 (by rw [c4]; decide) (by rw [c4]; decide) (by rw [c4]; decide) (by decide) ?_
          refine lv_aload_n hx hb dX10_about_96 rfl (lv_at hl 0 rfl) ?_
          refine va_get (D := (dC, dI)) (ci := 10) (v := .ref h1) (C := RX10) (T := TX10) (N := 10) hx hb hts inB_10 hown hE.1 hP 0 rfl rfl 2 (by decide) (hts _ k_493) (fun _ h9 => h9) rfl dX10_about_97 ?_
          refine va_getN (D := (dC, dI)) (ci := 7) (v := .int 150) (C := RX7) (T := TX7) (N := 10) hx hb hts inB_7 hown hE.1 hP 1 rfl rfl 6 (by decide) (va_Nw.use rfl (hE.2 _ k_236)) (fun _ h9 => h9) rfl dX10_about_100 ?_
          exact ret 150 () _ _ _ _ _ _ rfl (pt_X10_about_568 p1 c1 c2 c3 c4) (hP.sub [] rfl) (hD.sub [] (by decide) rfl) hS dX10_about_103 (Nat.le_of_ble_eq_true rfl) (Nat.le_of_ble_eq_true rfl)
        · skip
          by_cases c5 : p1 = 4
          · skip
            refine lv_tableIn (off := 103) (tgt := 104) hx hb dX10_about_1 (by rw [c5]; decide) (by rw [c5]; decide) (by rw [c5]; decide) (by decide) ?_
            refine lv_aload_n hx hb dX10_about_104 rfl (lv_at hl 0 rfl) ?_
            refine va_get (D := (dC, dI)) (ci := 10) (v := .ref h1) (C := RX10) (T := TX10) (N := 10) hx hb hts inB_10 hown hE.1 hP 0 rfl rfl 2 (by decide) (hts _ k_493) (fun _ h9 => h9) rfl dX10_about_105 ?_
            refine va_getN (D := (dC, dI)) (ci := 7) (v := .int 2) (C := RX7) (T := TX7) (N := 10) hx hb hts inB_7 hown hE.1 hP 1 rfl rfl 7 (by decide) (va_Nw.use rfl (hE.2 _ k_239)) (fun _ h9 => h9) rfl dX10_about_108 ?_
            exact ret 2 () _ _ _ _ _ _ rfl (pt_X10_about_569 p1 c1 c2 c3 c4 c5) (hP.sub [] rfl) (hD.sub [] (by decide) rfl) hS dX10_about_111 (Nat.le_of_ble_eq_true rfl) (Nat.le_of_ble_eq_true rfl)
          · skip
            by_cases c6 : p1 = 5
            · skip
              refine lv_tableIn (off := 111) (tgt := 112) hx hb dX10_about_1 (by rw [c6]; decide) (by rw [c6]; decide) (by rw [c6]; decide) (by decide) ?_
              refine lv_aload_n hx hb dX10_about_112 rfl (lv_at hl 0 rfl) ?_
              refine va_get (D := (dC, dI)) (ci := 10) (v := .ref h2) (C := RX10) (T := TX10) (N := 10) hx hb hts inB_10 hown hE.1 hP 0 rfl rfl 3 (by decide) (hts _ k_494) (fun _ h9 => h9) rfl dX10_about_113 ?_
              refine caVi (n := 0) (wr := [(h0, .inr (10, [.ref h6, .ref b0, .ref h1, .ref h2, .ref h4, .ref b1, .ref b2, .ref h8, .ref h5, .int 0])), (h1, .inr (7, [.ref b3, .ref b4, .ref h7, .int 0, .int 0, .int 10, .int 150, .int 2, .int 0, .int 0])), (h4, .inr (5, [.ref h2, .ref b5, .ref b6, .int 0, .int 0, .int 0, .int 0])), (h5, .inr (8, [.ref h1, .ref b7, .ref b8, .ref b9, .ref b10, .int 0, .ref b11])), (h6, .inr (9, [.ref b12, .int 0, .int 0, .int 0, .int 0, .int 0])), (h7, .inr (4, [.ref b13, .ref b14, .ref b15, .ref b16, .int 0, .int 0])), (h8, .inr (0, [.ref h1, .ref h2, .ref b17, .int 0, .ref b18, .ref b19, .int 0, .int 0]))]) (rest := []) hx hb hml hown hts hE hP hD hS hA (cnX1_today_1 l dC dI cy h2 h3 h1) k_864 k_832 k_833 k_106 k_834 (by decide +kernel) ⟨Nat.le_of_ble_eq_true rfl, Nat.le_of_ble_eq_true rfl⟩ [2, 3] [0, 1, 4, 5, 6, 7, 8] rfl rfl rfl (by decide) (by decide) (by decide) 0 1 rfl rfl rfl hl.1 rfl (Nat.le_of_ble_eq_true rfl) dX10_about_116 ⟨Nat.le_of_ble_eq_true rfl, Nat.le_of_ble_eq_true rfl⟩ (fun rr u H locs hw hP hD hS => ?_)
              have hP : va_P (dC, dI) vwCl [(h0, .inr (10, [.ref h6, .ref b0, .ref h1, .ref h2, .ref h4, .ref b1, .ref b2, .ref h8, .ref h5, .int 0])), (h1, .inr (7, [.ref b3, .ref b4, .ref h7, .int 0, .int 0, .int 10, .int 150, .int 2, .int 0, .int 0])), (h4, .inr (5, [.ref h2, .ref b5, .ref b6, .int 0, .int 0, .int 0, .int 0])), (h5, .inr (8, [.ref h1, .ref b7, .ref b8, .ref b9, .ref b10, .int 0, .ref b11])), (h6, .inr (9, [.ref b12, .int 0, .int 0, .int 0, .int 0, .int 0])), (h7, .inr (4, [.ref b13, .ref b14, .ref b15, .ref b16, .int 0, .int 0])), (h8, .inr (0, [.ref h1, .ref h2, .ref b17, .int 0, .ref b18, .ref b19, .int 0, .int 0])), (h2, .inr (1, [.ref h1, .ref h3])), (h3, .inl (cy 1, 44, .inl cF))] H := hP
              have hD : va_D A [(h0, .inr (10, [.ref h6, .ref b0, .ref h1, .ref h2, .ref h4, .ref b1, .ref b2, .ref h8, .ref h5, .int 0])), (h1, .inr (7, [.ref b3, .ref b4, .ref h7, .int 0, .int 0, .int 10, .int 150, .int 2, .int 0, .int 0])), (h4, .inr (5, [.ref h2, .ref b5, .ref b6, .int 0, .int 0, .int 0, .int 0])), (h5, .inr (8, [.ref h1, .ref b7, .ref b8, .ref b9, .ref b10, .int 0, .ref b11])), (h6, .inr (9, [.ref b12, .int 0, .int 0, .int 0, .int 0, .int 0])), (h7, .inr (4, [.ref b13, .ref b14, .ref b15, .ref b16, .int 0, .int 0])), (h8, .inr (0, [.ref h1, .ref h2, .ref b17, .int 0, .ref b18, .ref b19, .int 0, .int 0])), (h2, .inr (1, [.ref h1, .ref h3])), (h3, .inl (cy 1, 44, .inl cF))] := hD
              refine tI (y := 0) hw ?_
              exact ret 0 () _ _ _ _ _ _ rfl (pt_X10_about_570 p1 c1 c2 c3 c4 c5 c6) (hP.sub [] rfl) (hD.sub [] (by decide) rfl) hS dX10_about_119 (Nat.le_of_ble_eq_true rfl) (Nat.le_of_ble_eq_true rfl)
            · skip
              by_cases c7 : p1 = 6
              · skip
                refine lv_tableIn (off := 119) (tgt := 120) hx hb dX10_about_1 (by rw [c7]; decide) (by rw [c7]; decide) (by rw [c7]; decide) (by decide) ?_
                refine lv_aload_n hx hb dX10_about_120 rfl (lv_at hl 0 rfl) ?_
                refine va_get (D := (dC, dI)) (ci := 10) (v := .ref h2) (C := RX10) (T := TX10) (N := 10) hx hb hts inB_10 hown hE.1 hP 0 rfl rfl 3 (by decide) (hts _ k_494) (fun _ h9 => h9) rfl dX10_about_121 ?_
                refine caVi (n := 0) (wr := [(h0, .inr (10, [.ref h6, .ref b0, .ref h1, .ref h2, .ref h4, .ref b1, .ref b2, .ref h8, .ref h5, .int 0])), (h1, .inr (7, [.ref b3, .ref b4, .ref h7, .int 0, .int 0, .int 10, .int 150, .int 2, .int 0, .int 0])), (h4, .inr (5, [.ref h2, .ref b5, .ref b6, .int 0, .int 0, .int 0, .int 0])), (h5, .inr (8, [.ref h1, .ref b7, .ref b8, .ref b9, .ref b10, .int 0, .ref b11])), (h6, .inr (9, [.ref b12, .int 0, .int 0, .int 0, .int 0, .int 0])), (h7, .inr (4, [.ref b13, .ref b14, .ref b15, .ref b16, .int 0, .int 0])), (h8, .inr (0, [.ref h1, .ref h2, .ref b17, .int 0, .ref b18, .ref b19, .int 0, .int 0]))]) (rest := []) hx hb hml hown hts hE hP hD hS hA (cnX1_seed_1 l dC dI cy h2 h3 h1) k_1310 k_1311 k_1312 k_106 k_1313 (by decide +kernel) ⟨Nat.le_of_ble_eq_true rfl, Nat.le_of_ble_eq_true rfl⟩ [2, 3] [0, 1, 4, 5, 6, 7, 8] rfl rfl rfl (by decide) (by decide) (by decide) 0 1 rfl rfl rfl hl.1 rfl (Nat.le_of_ble_eq_true rfl) dX10_about_124 ⟨Nat.le_of_ble_eq_true rfl, Nat.le_of_ble_eq_true rfl⟩ (fun rr u H locs hw hP hD hS => ?_)
                have hP : va_P (dC, dI) vwCl [(h0, .inr (10, [.ref h6, .ref b0, .ref h1, .ref h2, .ref h4, .ref b1, .ref b2, .ref h8, .ref h5, .int 0])), (h1, .inr (7, [.ref b3, .ref b4, .ref h7, .int 0, .int 0, .int 10, .int 150, .int 2, .int 0, .int 0])), (h4, .inr (5, [.ref h2, .ref b5, .ref b6, .int 0, .int 0, .int 0, .int 0])), (h5, .inr (8, [.ref h1, .ref b7, .ref b8, .ref b9, .ref b10, .int 0, .ref b11])), (h6, .inr (9, [.ref b12, .int 0, .int 0, .int 0, .int 0, .int 0])), (h7, .inr (4, [.ref b13, .ref b14, .ref b15, .ref b16, .int 0, .int 0])), (h8, .inr (0, [.ref h1, .ref h2, .ref b17, .int 0, .ref b18, .ref b19, .int 0, .int 0])), (h2, .inr (1, [.ref h1, .ref h3])), (h3, .inl (cy 1, 44, .inl cF))] H := hP
                have hD : va_D A [(h0, .inr (10, [.ref h6, .ref b0, .ref h1, .ref h2, .ref h4, .ref b1, .ref b2, .ref h8, .ref h5, .int 0])), (h1, .inr (7, [.ref b3, .ref b4, .ref h7, .int 0, .int 0, .int 10, .int 150, .int 2, .int 0, .int 0])), (h4, .inr (5, [.ref h2, .ref b5, .ref b6, .int 0, .int 0, .int 0, .int 0])), (h5, .inr (8, [.ref h1, .ref b7, .ref b8, .ref b9, .ref b10, .int 0, .ref b11])), (h6, .inr (9, [.ref b12, .int 0, .int 0, .int 0, .int 0, .int 0])), (h7, .inr (4, [.ref b13, .ref b14, .ref b15, .ref b16, .int 0, .int 0])), (h8, .inr (0, [.ref h1, .ref h2, .ref b17, .int 0, .ref b18, .ref b19, .int 0, .int 0])), (h2, .inr (1, [.ref h1, .ref h3])), (h3, .inl (cy 1, 44, .inl cF))] := hD
                refine tI (y := 0) hw ?_
                exact ret 0 () _ _ _ _ _ _ rfl (pt_X10_about_571 p1 c1 c2 c3 c4 c5 c6 c7) (hP.sub [] rfl) (hD.sub [] (by decide) rfl) hS dX10_about_127 (Nat.le_of_ble_eq_true rfl) (Nat.le_of_ble_eq_true rfl)
              · skip
                by_cases c8 : p1 = 7
                · skip
                  refine lv_tableIn (off := 127) (tgt := 128) hx hb dX10_about_1 (by rw [c8]; decide) (by rw [c8]; decide) (by rw [c8]; decide) (by decide) ?_
                  refine lv_aload_n hx hb dX10_about_128 rfl (lv_at hl 0 rfl) ?_
                  refine va_get (D := (dC, dI)) (ci := 10) (v := .ref h4) (C := RX10) (T := TX10) (N := 10) hx hb hts inB_10 hown hE.1 hP 0 rfl rfl 4 (by decide) (hts _ k_495) (fun _ h9 => h9) rfl dX10_about_129 ?_
                  refine va_getN (D := (dC, dI)) (ci := 5) (v := .int 0) (C := RX5) (T := TX5) (N := 7) hx hb hts inB_5 hown hE.1 hP 4 rfl rfl 5 (by decide) (va_Nw.use rfl (hE.2 _ k_344)) (fun _ h9 => h9) rfl dX10_about_132 ?_
                  exact ret 0 () _ _ _ _ _ _ rfl (pt_X10_about_572 p1 c1 c2 c3 c4 c5 c6 c7 c8) (hP.sub [] rfl) (hD.sub [] (by decide) rfl) hS dX10_about_135 (Nat.le_of_ble_eq_true rfl) (Nat.le_of_ble_eq_true rfl)
                · skip
                  by_cases c9 : p1 = 8
                  · skip
                    refine lv_tableIn (off := 135) (tgt := 136) hx hb dX10_about_1 (by rw [c9]; decide) (by rw [c9]; decide) (by rw [c9]; decide) (by decide) ?_
                    refine lv_aload_n hx hb dX10_about_136 rfl (lv_at hl 0 rfl) ?_
                    refine va_get (D := (dC, dI)) (ci := 10) (v := .ref h4) (C := RX10) (T := TX10) (N := 10) hx hb hts inB_10 hown hE.1 hP 0 rfl rfl 4 (by decide) (hts _ k_495) (fun _ h9 => h9) rfl dX10_about_137 ?_
                    refine va_getN (D := (dC, dI)) (ci := 5) (v := .int 0) (C := RX5) (T := TX5) (N := 7) hx hb hts inB_5 hown hE.1 hP 4 rfl rfl 6 (by decide) (va_Nw.use rfl (hE.2 _ k_346)) (fun _ h9 => h9) rfl dX10_about_140 ?_
                    exact ret 0 () _ _ _ _ _ _ rfl (pt_X10_about_573 p1 c1 c2 c3 c4 c5 c6 c7 c8 c9) (hP.sub [] rfl) (hD.sub [] (by decide) rfl) hS dX10_about_143 (Nat.le_of_ble_eq_true rfl) (Nat.le_of_ble_eq_true rfl)
                  · skip
                    by_cases c10 : p1 = 9
                    · skip
                      refine lv_tableIn (off := 143) (tgt := 144) hx hb dX10_about_1 (by rw [c10]; decide) (by rw [c10]; decide) (by rw [c10]; decide) (by decide) ?_
                      refine lv_aload_n hx hb dX10_about_144 rfl (lv_at hl 0 rfl) ?_
                      refine va_get (D := (dC, dI)) (ci := 10) (v := .ref h5) (C := RX10) (T := TX10) (N := 10) hx hb hts inB_10 hown hE.1 hP 0 rfl rfl 8 (by decide) (hts _ k_499) (fun _ h9 => h9) rfl dX10_about_145 ?_
                      refine va_getN (D := (dC, dI)) (ci := 8) (v := .int 0) (C := RX8) (T := TX8) (N := 7) hx hb hts inB_8 hown hE.1 hP 5 rfl rfl 5 (by decide) (va_Nw.use rfl (hE.2 _ k_473)) (fun _ h9 => h9) rfl dX10_about_148 ?_
                      exact ret 0 () _ _ _ _ _ _ rfl (pt_X10_about_574 p1 c1 c2 c3 c4 c5 c6 c7 c8 c9 c10) (hP.sub [] rfl) (hD.sub [] (by decide) rfl) hS dX10_about_151 (Nat.le_of_ble_eq_true rfl) (Nat.le_of_ble_eq_true rfl)
                    · skip
                      by_cases c11 : p1 = 10
                      · skip
                        refine lv_tableIn (off := 151) (tgt := 152) hx hb dX10_about_1 (by rw [c11]; decide) (by rw [c11]; decide) (by rw [c11]; decide) (by decide) ?_
                        refine lv_aload_n hx hb dX10_about_152 rfl (lv_at hl 0 rfl) ?_
                        refine va_get (D := (dC, dI)) (ci := 10) (v := .int 0) (C := RX10) (T := TX10) (N := 10) hx hb hts inB_10 hown hE.1 hP 0 rfl rfl 9 (by decide) (hts _ k_500) (fun _ h9 => h9) rfl dX10_about_153 ?_
                        exact ret 0 () _ _ _ _ _ _ rfl (pt_X10_about_575 p1 c1 c2 c3 c4 c5 c6 c7 c8 c9 c10 c11) (hP.sub [] rfl) (hD.sub [] (by decide) rfl) hS dX10_about_156 (Nat.le_of_ble_eq_true rfl) (Nat.le_of_ble_eq_true rfl)
                      · skip
                        by_cases c12 : p1 = 11
                        · skip
                          refine lv_tableIn (off := 156) (tgt := 157) hx hb dX10_about_1 (by rw [c12]; decide) (by rw [c12]; decide) (by rw [c12]; decide) (by decide) ?_
                          refine lv_aload_n hx hb dX10_about_157 rfl (lv_at hl 0 rfl) ?_
                          refine va_get (D := (dC, dI)) (ci := 10) (v := .ref h6) (C := RX10) (T := TX10) (N := 10) hx hb hts inB_10 hown hE.1 hP 0 rfl rfl 0 (by decide) (hts _ k_491) (fun _ h9 => h9) rfl dX10_about_158 ?_
                          refine va_getN (D := (dC, dI)) (ci := 9) (v := .int 0) (C := RX9) (T := TX9) (N := 6) hx hb hts inB_9 hown hE.1 hP 6 rfl rfl 1 (by decide) (va_Nw.use rfl (hE.2 _ k_138)) (fun _ h9 => h9) rfl dX10_about_161 ?_
                          exact ret 0 () _ _ _ _ _ _ rfl (pt_X10_about_576 p1 c1 c2 c3 c4 c5 c6 c7 c8 c9 c10 c11 c12) (hP.sub [] rfl) (hD.sub [] (by decide) rfl) hS dX10_about_164 (Nat.le_of_ble_eq_true rfl) (Nat.le_of_ble_eq_true rfl)
                        · skip
                          by_cases c13 : p1 = 12
                          · skip
                            refine lv_tableIn (off := 164) (tgt := 165) hx hb dX10_about_1 (by rw [c13]; decide) (by rw [c13]; decide) (by rw [c13]; decide) (by decide) ?_
                            refine lv_aload_n hx hb dX10_about_165 rfl (lv_at hl 0 rfl) ?_
                            refine va_get (D := (dC, dI)) (ci := 10) (v := .ref h1) (C := RX10) (T := TX10) (N := 10) hx hb hts inB_10 hown hE.1 hP 0 rfl rfl 2 (by decide) (hts _ k_493) (fun _ h9 => h9) rfl dX10_about_166 ?_
                            refine va_getN (D := (dC, dI)) (ci := 7) (v := .ref h7) (C := RX7) (T := TX7) (N := 10) hx hb hts inB_7 hown hE.1 hP 1 rfl rfl 2 (by decide) (va_Nw.use rfl (hE.2 _ k_211)) (fun _ h9 => h9) rfl dX10_about_169 ?_
                            refine va_getN (D := (dC, dI)) (ci := 4) (v := .int 0) (C := RX4) (T := TX4) (N := 6) hx hb hts inB_4 hown hE.1 hP 7 rfl rfl 5 (by decide) (va_Nw.use rfl (hE.2 _ k_185)) (fun _ h9 => h9) rfl dX10_about_172 ?_
                            exact ret 0 () _ _ _ _ _ _ rfl (pt_X10_about_577 p1 c1 c2 c3 c4 c5 c6 c7 c8 c9 c10 c11 c12 c13) (hP.sub [] rfl) (hD.sub [] (by decide) rfl) hS dX10_about_175 (Nat.le_of_ble_eq_true rfl) (Nat.le_of_ble_eq_true rfl)
                          · skip
                            by_cases c14 : p1 = 13
                            · skip
                              refine lv_tableIn (off := 175) (tgt := 176) hx hb dX10_about_1 (by rw [c14]; decide) (by rw [c14]; decide) (by rw [c14]; decide) (by decide) ?_
                              refine lv_aload_n hx hb dX10_about_176 rfl (lv_at hl 0 rfl) ?_
                              refine va_get (D := (dC, dI)) (ci := 10) (v := .ref h8) (C := RX10) (T := TX10) (N := 10) hx hb hts inB_10 hown hE.1 hP 0 rfl rfl 7 (by decide) (hts _ k_498) (fun _ h9 => h9) rfl dX10_about_177 ?_
                              refine va_getN (D := (dC, dI)) (ci := 0) (v := .int 0) (C := RX0) (T := TX0) (N := 8) hx hb hts inB_0 hown hE.1 hP 8 rfl rfl 3 (by decide) (va_Nw.use rfl (hE.2 _ k_434)) (fun _ h9 => h9) rfl dX10_about_180 ?_
                              exact ret 0 () _ _ _ _ _ _ rfl (pt_X10_about_578 p1 c1 c2 c3 c4 c5 c6 c7 c8 c9 c10 c11 c12 c13 c14) (hP.sub [] rfl) (hD.sub [] (by decide) rfl) hS dX10_about_183 (Nat.le_of_ble_eq_true rfl) (Nat.le_of_ble_eq_true rfl)
                            · skip
                              refine lv_tableOut (tgt := 184) hx hb dX10_about_1 (po_X10_about_579 p1 c1 c2 c3 c4 c5 c6 c7 c8 c9 c10 c11 c12 c13 c14) (by decide) ?_
                              refine lv_iconst (v := (-1)) hx hb dX10_about_184 (by decide) ?_
                              exact ret (-1) () _ _ _ _ _ _ rfl (pt_X10_about_580 p1 c1 c2 c3 c4 c5 c6 c7 c8 c9 c10 c11 c12 c13 c14) (hP.sub [] rfl) (hD.sub [] (by decide) rfl) hS dX10_about_185 (Nat.le_of_ble_eq_true rfl) (Nat.le_of_ble_eq_true rfl)
theorem pt_X11_about_581 (p1 : Int32) (c1 : p1 = 0) : (0 : Int32) = F_about p1 := by
  unfold F_about
  (repeat' split)
  all_goals first | rfl | assumption | (exfalso; simp only [fa_lt, fa_le, fa_eq, tl_m1, tl_0, tl_2, tl_3, tl_4, tl_10, tl_13, tl_150] at *; omega) | (simp only [fa_lt, fa_le, fa_eq, tl_m1, tl_0, tl_2, tl_3, tl_4, tl_10, tl_13, tl_150] at *; omega)
theorem pt_X11_about_582 (p1 : Int32) (c1 : ¬ p1 = 0) (c2 : p1 = 1) : (0 : Int32) = F_about p1 := by
  unfold F_about
  (repeat' split)
  all_goals first | rfl | assumption | (exfalso; simp only [fa_lt, fa_le, fa_eq, tl_m1, tl_0, tl_1, tl_2, tl_3, tl_4, tl_10, tl_13, tl_150] at *; omega) | (simp only [fa_lt, fa_le, fa_eq, tl_m1, tl_0, tl_1, tl_2, tl_3, tl_4, tl_10, tl_13, tl_150] at *; omega)
theorem pt_X11_about_583 (p1 : Int32) (c1 : ¬ p1 = 0) (c2 : ¬ p1 = 1) (c3 : p1 = 2) : (10 : Int32) = F_about p1 := by
  unfold F_about
  (repeat' split)
  all_goals first | rfl | assumption | (exfalso; simp only [fa_lt, fa_le, fa_eq, tl_m1, tl_0, tl_1, tl_2, tl_3, tl_4, tl_10, tl_13, tl_150] at *; omega) | (simp only [fa_lt, fa_le, fa_eq, tl_m1, tl_0, tl_1, tl_2, tl_3, tl_4, tl_10, tl_13, tl_150] at *; omega)
theorem pt_X11_about_584 (p1 : Int32) (c1 : ¬ p1 = 0) (c2 : ¬ p1 = 1) (c3 : ¬ p1 = 2) (c4 : p1 = 3) : (150 : Int32) = F_about p1 := by
  unfold F_about
  (repeat' split)
  all_goals first | rfl | assumption | (exfalso; simp only [fa_lt, fa_le, fa_eq, tl_m1, tl_0, tl_1, tl_2, tl_3, tl_4, tl_10, tl_13, tl_150] at *; omega) | (simp only [fa_lt, fa_le, fa_eq, tl_m1, tl_0, tl_1, tl_2, tl_3, tl_4, tl_10, tl_13, tl_150] at *; omega)
theorem pt_X11_about_585 (p1 : Int32) (c1 : ¬ p1 = 0) (c2 : ¬ p1 = 1) (c3 : ¬ p1 = 2) (c4 : ¬ p1 = 3) (c5 : p1 = 4) : (2 : Int32) = F_about p1 := by
  unfold F_about
  (repeat' split)
  all_goals first | rfl | assumption | (exfalso; simp only [fa_lt, fa_le, fa_eq, tl_m1, tl_0, tl_1, tl_2, tl_3, tl_4, tl_10, tl_13, tl_150] at *; omega) | (simp only [fa_lt, fa_le, fa_eq, tl_m1, tl_0, tl_1, tl_2, tl_3, tl_4, tl_10, tl_13, tl_150] at *; omega)
theorem pt_X11_about_586 (p1 : Int32) (c1 : ¬ p1 = 0) (c2 : ¬ p1 = 1) (c3 : ¬ p1 = 2) (c4 : ¬ p1 = 3) (c5 : ¬ p1 = 4) (c6 : p1 = 5) : (0 : Int32) = F_about p1 := by
  unfold F_about
  (repeat' split)
  all_goals first | rfl | assumption | (exfalso; simp only [fa_lt, fa_le, fa_eq, tl_m1, tl_0, tl_1, tl_2, tl_3, tl_4, tl_5, tl_10, tl_13, tl_150] at *; omega) | (simp only [fa_lt, fa_le, fa_eq, tl_m1, tl_0, tl_1, tl_2, tl_3, tl_4, tl_5, tl_10, tl_13, tl_150] at *; omega)
theorem pt_X11_about_587 (p1 : Int32) (c1 : ¬ p1 = 0) (c2 : ¬ p1 = 1) (c3 : ¬ p1 = 2) (c4 : ¬ p1 = 3) (c5 : ¬ p1 = 4) (c6 : ¬ p1 = 5) (c7 : p1 = 6) : (0 : Int32) = F_about p1 := by
  unfold F_about
  (repeat' split)
  all_goals first | rfl | assumption | (exfalso; simp only [fa_lt, fa_le, fa_eq, tl_m1, tl_0, tl_1, tl_2, tl_3, tl_4, tl_5, tl_6, tl_10, tl_13, tl_150] at *; omega) | (simp only [fa_lt, fa_le, fa_eq, tl_m1, tl_0, tl_1, tl_2, tl_3, tl_4, tl_5, tl_6, tl_10, tl_13, tl_150] at *; omega)
theorem pt_X11_about_588 (p1 : Int32) (c1 : ¬ p1 = 0) (c2 : ¬ p1 = 1) (c3 : ¬ p1 = 2) (c4 : ¬ p1 = 3) (c5 : ¬ p1 = 4) (c6 : ¬ p1 = 5) (c7 : ¬ p1 = 6) (c8 : p1 = 7) : (0 : Int32) = F_about p1 := by
  unfold F_about
  (repeat' split)
  all_goals first | rfl | assumption | (exfalso; simp only [fa_lt, fa_le, fa_eq, tl_m1, tl_0, tl_1, tl_2, tl_3, tl_4, tl_5, tl_6, tl_7, tl_10, tl_13, tl_150] at *; omega) | (simp only [fa_lt, fa_le, fa_eq, tl_m1, tl_0, tl_1, tl_2, tl_3, tl_4, tl_5, tl_6, tl_7, tl_10, tl_13, tl_150] at *; omega)
theorem pt_X11_about_589 (p1 : Int32) (c1 : ¬ p1 = 0) (c2 : ¬ p1 = 1) (c3 : ¬ p1 = 2) (c4 : ¬ p1 = 3) (c5 : ¬ p1 = 4) (c6 : ¬ p1 = 5) (c7 : ¬ p1 = 6) (c8 : ¬ p1 = 7) (c9 : p1 = 8) : (0 : Int32) = F_about p1 := by
  unfold F_about
  (repeat' split)
  all_goals first | rfl | assumption | (exfalso; simp only [fa_lt, fa_le, fa_eq, tl_m1, tl_0, tl_1, tl_2, tl_3, tl_4, tl_5, tl_6, tl_7, tl_8, tl_10, tl_13, tl_150] at *; omega) | (simp only [fa_lt, fa_le, fa_eq, tl_m1, tl_0, tl_1, tl_2, tl_3, tl_4, tl_5, tl_6, tl_7, tl_8, tl_10, tl_13, tl_150] at *; omega)
theorem pt_X11_about_590 (p1 : Int32) (c1 : ¬ p1 = 0) (c2 : ¬ p1 = 1) (c3 : ¬ p1 = 2) (c4 : ¬ p1 = 3) (c5 : ¬ p1 = 4) (c6 : ¬ p1 = 5) (c7 : ¬ p1 = 6) (c8 : ¬ p1 = 7) (c9 : ¬ p1 = 8) (c10 : p1 = 9) : (0 : Int32) = F_about p1 := by
  unfold F_about
  (repeat' split)
  all_goals first | rfl | assumption | (exfalso; simp only [fa_lt, fa_le, fa_eq, tl_m1, tl_0, tl_1, tl_2, tl_3, tl_4, tl_5, tl_6, tl_7, tl_8, tl_9, tl_10, tl_13, tl_150] at *; omega) | (simp only [fa_lt, fa_le, fa_eq, tl_m1, tl_0, tl_1, tl_2, tl_3, tl_4, tl_5, tl_6, tl_7, tl_8, tl_9, tl_10, tl_13, tl_150] at *; omega)
theorem pt_X11_about_591 (p1 : Int32) (c1 : ¬ p1 = 0) (c2 : ¬ p1 = 1) (c3 : ¬ p1 = 2) (c4 : ¬ p1 = 3) (c5 : ¬ p1 = 4) (c6 : ¬ p1 = 5) (c7 : ¬ p1 = 6) (c8 : ¬ p1 = 7) (c9 : ¬ p1 = 8) (c10 : ¬ p1 = 9) (c11 : p1 = 10) : (0 : Int32) = F_about p1 := by
  unfold F_about
  (repeat' split)
  all_goals first | rfl | assumption | (exfalso; simp only [fa_lt, fa_le, fa_eq, tl_m1, tl_0, tl_1, tl_2, tl_3, tl_4, tl_5, tl_6, tl_7, tl_8, tl_9, tl_10, tl_13, tl_150] at *; omega) | (simp only [fa_lt, fa_le, fa_eq, tl_m1, tl_0, tl_1, tl_2, tl_3, tl_4, tl_5, tl_6, tl_7, tl_8, tl_9, tl_10, tl_13, tl_150] at *; omega)
theorem pt_X11_about_592 (p1 : Int32) (c1 : ¬ p1 = 0) (c2 : ¬ p1 = 1) (c3 : ¬ p1 = 2) (c4 : ¬ p1 = 3) (c5 : ¬ p1 = 4) (c6 : ¬ p1 = 5) (c7 : ¬ p1 = 6) (c8 : ¬ p1 = 7) (c9 : ¬ p1 = 8) (c10 : ¬ p1 = 9) (c11 : ¬ p1 = 10) (c12 : p1 = 11) : (0 : Int32) = F_about p1 := by
  unfold F_about
  (repeat' split)
  all_goals first | rfl | assumption | (exfalso; simp only [fa_lt, fa_le, fa_eq, tl_m1, tl_0, tl_1, tl_2, tl_3, tl_4, tl_5, tl_6, tl_7, tl_8, tl_9, tl_10, tl_11, tl_13, tl_150] at *; omega) | (simp only [fa_lt, fa_le, fa_eq, tl_m1, tl_0, tl_1, tl_2, tl_3, tl_4, tl_5, tl_6, tl_7, tl_8, tl_9, tl_10, tl_11, tl_13, tl_150] at *; omega)
theorem pt_X11_about_593 (p1 : Int32) (c1 : ¬ p1 = 0) (c2 : ¬ p1 = 1) (c3 : ¬ p1 = 2) (c4 : ¬ p1 = 3) (c5 : ¬ p1 = 4) (c6 : ¬ p1 = 5) (c7 : ¬ p1 = 6) (c8 : ¬ p1 = 7) (c9 : ¬ p1 = 8) (c10 : ¬ p1 = 9) (c11 : ¬ p1 = 10) (c12 : ¬ p1 = 11) (c13 : p1 = 12) : (0 : Int32) = F_about p1 := by
  unfold F_about
  (repeat' split)
  all_goals first | rfl | assumption | (exfalso; simp only [fa_lt, fa_le, fa_eq, tl_m1, tl_0, tl_1, tl_2, tl_3, tl_4, tl_5, tl_6, tl_7, tl_8, tl_9, tl_10, tl_11, tl_12, tl_13, tl_150] at *; omega) | (simp only [fa_lt, fa_le, fa_eq, tl_m1, tl_0, tl_1, tl_2, tl_3, tl_4, tl_5, tl_6, tl_7, tl_8, tl_9, tl_10, tl_11, tl_12, tl_13, tl_150] at *; omega)
theorem pt_X11_about_594 (p1 : Int32) (c1 : ¬ p1 = 0) (c2 : ¬ p1 = 1) (c3 : ¬ p1 = 2) (c4 : ¬ p1 = 3) (c5 : ¬ p1 = 4) (c6 : ¬ p1 = 5) (c7 : ¬ p1 = 6) (c8 : ¬ p1 = 7) (c9 : ¬ p1 = 8) (c10 : ¬ p1 = 9) (c11 : ¬ p1 = 10) (c12 : ¬ p1 = 11) (c13 : ¬ p1 = 12) (c14 : p1 = 13) : (0 : Int32) = F_about p1 := by
  unfold F_about
  (repeat' split)
  all_goals first | rfl | assumption | (exfalso; simp only [fa_lt, fa_le, fa_eq, tl_m1, tl_0, tl_1, tl_2, tl_3, tl_4, tl_5, tl_6, tl_7, tl_8, tl_9, tl_10, tl_11, tl_12, tl_13, tl_150] at *; omega) | (simp only [fa_lt, fa_le, fa_eq, tl_m1, tl_0, tl_1, tl_2, tl_3, tl_4, tl_5, tl_6, tl_7, tl_8, tl_9, tl_10, tl_11, tl_12, tl_13, tl_150] at *; omega)
theorem po_X11_about_595 (p1 : Int32) (c1 : ¬ p1 = 0) (c2 : ¬ p1 = 1) (c3 : ¬ p1 = 2) (c4 : ¬ p1 = 3) (c5 : ¬ p1 = 4) (c6 : ¬ p1 = 5) (c7 : ¬ p1 = 6) (c8 : ¬ p1 = 7) (c9 : ¬ p1 = 8) (c10 : ¬ p1 = 9) (c11 : ¬ p1 = 10) (c12 : ¬ p1 = 11) (c13 : ¬ p1 = 12) (c14 : ¬ p1 = 13) : p1.toInt < 0 ∨ 13 < p1.toInt := by simp only [fa_lt, fa_le, fa_eq, tl_0, tl_1, tl_2, tl_3, tl_4, tl_5, tl_6, tl_7, tl_8, tl_9, tl_10, tl_11, tl_12, tl_13] at *; omega
theorem pt_X11_about_596 (p1 : Int32) (c1 : ¬ p1 = 0) (c2 : ¬ p1 = 1) (c3 : ¬ p1 = 2) (c4 : ¬ p1 = 3) (c5 : ¬ p1 = 4) (c6 : ¬ p1 = 5) (c7 : ¬ p1 = 6) (c8 : ¬ p1 = 7) (c9 : ¬ p1 = 8) (c10 : ¬ p1 = 9) (c11 : ¬ p1 = 10) (c12 : ¬ p1 = 11) (c13 : ¬ p1 = 12) (c14 : ¬ p1 = 13) : ((-1) : Int32) = F_about p1 := by
  unfold F_about
  (repeat' split)
  all_goals first | rfl | assumption | (exfalso; simp only [fa_lt, fa_le, fa_eq, tl_m1, tl_0, tl_1, tl_2, tl_3, tl_4, tl_5, tl_6, tl_7, tl_8, tl_9, tl_10, tl_11, tl_12, tl_13, tl_150] at *; omega) | (simp only [fa_lt, fa_le, fa_eq, tl_m1, tl_0, tl_1, tl_2, tl_3, tl_4, tl_5, tl_6, tl_7, tl_8, tl_9, tl_10, tl_11, tl_12, tl_13, tl_150] at *; omega)
set_option maxHeartbeats 4000000 in
set_option maxRecDepth 100000 in
theorem cnX11_about_1 (l : Launch) (dC : Nat → ClassId) (dI : Nat → Nat → Nat) (cy : Nat → ClassId) (h0 : Nat) (r : Nat → Nat) (p1 : Int32) : ctI l (dC, dI) cy yX11_about cX11_about 2 .int 1 60 0 0 Unit [.ref h0, .int p1] [(h0, .inr (11, mFs r mv0)), ((r 59), .inl (cy 1, 39, .inl zF))] (fun r _ => r = F_about p1) (fun u => []) := by
  refine ctI_of (by decide) (Nat.le_of_ble_eq_true rfl) (fun p e s m below meth c A ls Q hx hb hml hts hown hE hP hD hA hl ret => ?_)
  have hown : s.vm.findClass RX11 = some m.cls := hown
  have hS : va_S A s.heap s.heap [] := va_S.rf
  have hl : lv_has ls 2 [(0, .ref h0), (1, .int p1)] := hl
  refine lv_iload_n hx hb dX11_about_0 rfl (lv_at hl 1 rfl) ?_
  by_cases c1 : p1 = 0
  · skip
    refine lv_tableIn (off := 71) (tgt := 72) hx hb dX11_about_1 (by rw [c1]; decide) (by rw [c1]; decide) (by rw [c1]; decide) (by decide) ?_
    refine lv_aload_n hx hb dX11_about_72 rfl (lv_at hl 0 rfl) ?_
    refine va_get (D := (dC, dI)) (ci := 11) (v := .int 0) (C := RX11) (T := TX11) (N := 79) hx hb hts inB_11 hown hE.1 hP 0 rfl rfl 48 (by decide) (hts _ k_1368) (fun _ h9 => h9) rfl dX11_about_73 ?_
    exact ret 0 () _ _ _ _ _ _ rfl (pt_X11_about_581 p1 c1) (hP.sub [] rfl) (hD.sub [] (by decide) rfl) hS dX11_about_76 (Nat.le_of_ble_eq_true rfl) (Nat.le_of_ble_eq_true rfl)
  · skip
    by_cases c2 : p1 = 1
    · skip
      refine lv_tableIn (off := 76) (tgt := 77) hx hb dX11_about_1 (by rw [c2]; decide) (by rw [c2]; decide) (by rw [c2]; decide) (by decide) ?_
      refine lv_aload_n hx hb dX11_about_77 rfl (lv_at hl 0 rfl) ?_
      refine va_get (D := (dC, dI)) (ci := 11) (v := .int 0) (C := RX11) (T := TX11) (N := 79) hx hb hts inB_11 hown hE.1 hP 0 rfl rfl 49 (by decide) (hts _ k_1369) (fun _ h9 => h9) rfl dX11_about_78 ?_
      exact ret 0 () _ _ _ _ _ _ rfl (pt_X11_about_582 p1 c1 c2) (hP.sub [] rfl) (hD.sub [] (by decide) rfl) hS dX11_about_81 (Nat.le_of_ble_eq_true rfl) (Nat.le_of_ble_eq_true rfl)
    · skip
      by_cases c3 : p1 = 2
      · skip
        refine lv_tableIn (off := 81) (tgt := 82) hx hb dX11_about_1 (by rw [c3]; decide) (by rw [c3]; decide) (by rw [c3]; decide) (by decide) ?_
        refine lv_aload_n hx hb dX11_about_82 rfl (lv_at hl 0 rfl) ?_
        refine va_get (D := (dC, dI)) (ci := 11) (v := .int 10) (C := RX11) (T := TX11) (N := 79) hx hb hts inB_11 hown hE.1 hP 0 rfl rfl 50 (by decide) (hts _ k_1370) (fun _ h9 => h9) rfl dX11_about_83 ?_
        exact ret 10 () _ _ _ _ _ _ rfl (pt_X11_about_583 p1 c1 c2 c3) (hP.sub [] rfl) (hD.sub [] (by decide) rfl) hS dX11_about_86 (Nat.le_of_ble_eq_true rfl) (Nat.le_of_ble_eq_true rfl)
      · skip
        by_cases c4 : p1 = 3
        · skip
          refine lv_tableIn (off := 86) (tgt := 87) hx hb dX11_about_1 (by rw [c4]; decide) (by rw [c4]; decide) (by rw [c4]; decide) (by decide) ?_
          refine lv_aload_n hx hb dX11_about_87 rfl (lv_at hl 0 rfl) ?_
          refine va_get (D := (dC, dI)) (ci := 11) (v := .int 150) (C := RX11) (T := TX11) (N := 79) hx hb hts inB_11 hown hE.1 hP 0 rfl rfl 51 (by decide) (hts _ k_1371) (fun _ h9 => h9) rfl dX11_about_88 ?_
          exact ret 150 () _ _ _ _ _ _ rfl (pt_X11_about_584 p1 c1 c2 c3 c4) (hP.sub [] rfl) (hD.sub [] (by decide) rfl) hS dX11_about_91 (Nat.le_of_ble_eq_true rfl) (Nat.le_of_ble_eq_true rfl)
        · skip
          by_cases c5 : p1 = 4
          · skip
            refine lv_tableIn (off := 91) (tgt := 92) hx hb dX11_about_1 (by rw [c5]; decide) (by rw [c5]; decide) (by rw [c5]; decide) (by decide) ?_
            refine lv_aload_n hx hb dX11_about_92 rfl (lv_at hl 0 rfl) ?_
            refine va_get (D := (dC, dI)) (ci := 11) (v := .int 2) (C := RX11) (T := TX11) (N := 79) hx hb hts inB_11 hown hE.1 hP 0 rfl rfl 52 (by decide) (hts _ k_1372) (fun _ h9 => h9) rfl dX11_about_93 ?_
            exact ret 2 () _ _ _ _ _ _ rfl (pt_X11_about_585 p1 c1 c2 c3 c4 c5) (hP.sub [] rfl) (hD.sub [] (by decide) rfl) hS dX11_about_96 (Nat.le_of_ble_eq_true rfl) (Nat.le_of_ble_eq_true rfl)
          · skip
            by_cases c6 : p1 = 5
            · skip
              refine lv_tableIn (off := 96) (tgt := 97) hx hb dX11_about_1 (by rw [c6]; decide) (by rw [c6]; decide) (by rw [c6]; decide) (by decide) ?_
              refine lv_aload_n hx hb dX11_about_97 rfl (lv_at hl 0 rfl) ?_
              refine va_get (D := (dC, dI)) (ci := 11) (v := .ref (r 59)) (C := RX11) (T := TX11) (N := 79) hx hb hts inB_11 hown hE.1 hP 0 rfl rfl 59 (by decide) (hts _ k_1379) (fun _ h9 => h9) rfl dX11_about_98 ?_
              refine lv_bipush (v := 37) hx hb dX11_about_101 (by decide) ?_
              refine ldI (k := 37) (v := 0) hx hb hE hP 1 rfl (vp_in_nI (n := 37) (by decide) (by decide)) (nI_clamp (n := 37) (by decide)) rfl dX11_about_103 ?_
              exact ret 0 () _ _ _ _ _ _ rfl (pt_X11_about_586 p1 c1 c2 c3 c4 c5 c6) (hP.sub [] rfl) (hD.sub [] (by decide) rfl) hS dX11_about_104 (Nat.le_of_ble_eq_true rfl) (Nat.le_of_ble_eq_true rfl)
            · skip
              by_cases c7 : p1 = 6
              · skip
                refine lv_tableIn (off := 104) (tgt := 105) hx hb dX11_about_1 (by rw [c7]; decide) (by rw [c7]; decide) (by rw [c7]; decide) (by decide) ?_
                refine lv_aload_n hx hb dX11_about_105 rfl (lv_at hl 0 rfl) ?_
                refine va_get (D := (dC, dI)) (ci := 11) (v := .ref (r 59)) (C := RX11) (T := TX11) (N := 79) hx hb hts inB_11 hown hE.1 hP 0 rfl rfl 59 (by decide) (hts _ k_1379) (fun _ h9 => h9) rfl dX11_about_106 ?_
                refine lv_bipush (v := 38) hx hb dX11_about_109 (by decide) ?_
                refine ldI (k := 38) (v := 0) hx hb hE hP 1 rfl (vp_in_nI (n := 38) (by decide) (by decide)) (nI_clamp (n := 38) (by decide)) rfl dX11_about_111 ?_
                exact ret 0 () _ _ _ _ _ _ rfl (pt_X11_about_587 p1 c1 c2 c3 c4 c5 c6 c7) (hP.sub [] rfl) (hD.sub [] (by decide) rfl) hS dX11_about_112 (Nat.le_of_ble_eq_true rfl) (Nat.le_of_ble_eq_true rfl)
              · skip
                by_cases c8 : p1 = 7
                · skip
                  refine lv_tableIn (off := 112) (tgt := 113) hx hb dX11_about_1 (by rw [c8]; decide) (by rw [c8]; decide) (by rw [c8]; decide) (by decide) ?_
                  refine lv_aload_n hx hb dX11_about_113 rfl (lv_at hl 0 rfl) ?_
                  refine va_get (D := (dC, dI)) (ci := 11) (v := .int 0) (C := RX11) (T := TX11) (N := 79) hx hb hts inB_11 hown hE.1 hP 0 rfl rfl 62 (by decide) (hts _ k_1382) (fun _ h9 => h9) rfl dX11_about_114 ?_
                  exact ret 0 () _ _ _ _ _ _ rfl (pt_X11_about_588 p1 c1 c2 c3 c4 c5 c6 c7 c8) (hP.sub [] rfl) (hD.sub [] (by decide) rfl) hS dX11_about_117 (Nat.le_of_ble_eq_true rfl) (Nat.le_of_ble_eq_true rfl)
                · skip
                  by_cases c9 : p1 = 8
                  · skip
                    refine lv_tableIn (off := 117) (tgt := 118) hx hb dX11_about_1 (by rw [c9]; decide) (by rw [c9]; decide) (by rw [c9]; decide) (by decide) ?_
                    refine lv_aload_n hx hb dX11_about_118 rfl (lv_at hl 0 rfl) ?_
                    refine va_get (D := (dC, dI)) (ci := 11) (v := .int 0) (C := RX11) (T := TX11) (N := 79) hx hb hts inB_11 hown hE.1 hP 0 rfl rfl 63 (by decide) (hts _ k_1383) (fun _ h9 => h9) rfl dX11_about_119 ?_
                    exact ret 0 () _ _ _ _ _ _ rfl (pt_X11_about_589 p1 c1 c2 c3 c4 c5 c6 c7 c8 c9) (hP.sub [] rfl) (hD.sub [] (by decide) rfl) hS dX11_about_122 (Nat.le_of_ble_eq_true rfl) (Nat.le_of_ble_eq_true rfl)
                  · skip
                    by_cases c10 : p1 = 9
                    · skip
                      refine lv_tableIn (off := 122) (tgt := 123) hx hb dX11_about_1 (by rw [c10]; decide) (by rw [c10]; decide) (by rw [c10]; decide) (by decide) ?_
                      refine lv_aload_n hx hb dX11_about_123 rfl (lv_at hl 0 rfl) ?_
                      refine va_get (D := (dC, dI)) (ci := 11) (v := .int 0) (C := RX11) (T := TX11) (N := 79) hx hb hts inB_11 hown hE.1 hP 0 rfl rfl 73 (by decide) (hts _ k_1393) (fun _ h9 => h9) rfl dX11_about_124 ?_
                      exact ret 0 () _ _ _ _ _ _ rfl (pt_X11_about_590 p1 c1 c2 c3 c4 c5 c6 c7 c8 c9 c10) (hP.sub [] rfl) (hD.sub [] (by decide) rfl) hS dX11_about_127 (Nat.le_of_ble_eq_true rfl) (Nat.le_of_ble_eq_true rfl)
                    · skip
                      by_cases c11 : p1 = 10
                      · skip
                        refine lv_tableIn (off := 127) (tgt := 128) hx hb dX11_about_1 (by rw [c11]; decide) (by rw [c11]; decide) (by rw [c11]; decide) (by decide) ?_
                        refine lv_aload_n hx hb dX11_about_128 rfl (lv_at hl 0 rfl) ?_
                        refine va_get (D := (dC, dI)) (ci := 11) (v := .int 0) (C := RX11) (T := TX11) (N := 79) hx hb hts inB_11 hown hE.1 hP 0 rfl rfl 74 (by decide) (hts _ k_1394) (fun _ h9 => h9) rfl dX11_about_129 ?_
                        exact ret 0 () _ _ _ _ _ _ rfl (pt_X11_about_591 p1 c1 c2 c3 c4 c5 c6 c7 c8 c9 c10 c11) (hP.sub [] rfl) (hD.sub [] (by decide) rfl) hS dX11_about_132 (Nat.le_of_ble_eq_true rfl) (Nat.le_of_ble_eq_true rfl)
                      · skip
                        by_cases c12 : p1 = 11
                        · skip
                          refine lv_tableIn (off := 132) (tgt := 133) hx hb dX11_about_1 (by rw [c12]; decide) (by rw [c12]; decide) (by rw [c12]; decide) (by decide) ?_
                          refine lv_aload_n hx hb dX11_about_133 rfl (lv_at hl 0 rfl) ?_
                          refine va_get (D := (dC, dI)) (ci := 11) (v := .int 0) (C := RX11) (T := TX11) (N := 79) hx hb hts inB_11 hown hE.1 hP 0 rfl rfl 1 (by decide) (hts _ k_1321) (fun _ h9 => h9) rfl dX11_about_134 ?_
                          exact ret 0 () _ _ _ _ _ _ rfl (pt_X11_about_592 p1 c1 c2 c3 c4 c5 c6 c7 c8 c9 c10 c11 c12) (hP.sub [] rfl) (hD.sub [] (by decide) rfl) hS dX11_about_137 (Nat.le_of_ble_eq_true rfl) (Nat.le_of_ble_eq_true rfl)
                        · skip
                          by_cases c13 : p1 = 12
                          · skip
                            refine lv_tableIn (off := 137) (tgt := 138) hx hb dX11_about_1 (by rw [c13]; decide) (by rw [c13]; decide) (by rw [c13]; decide) (by decide) ?_
                            refine lv_aload_n hx hb dX11_about_138 rfl (lv_at hl 0 rfl) ?_
                            refine va_get (D := (dC, dI)) (ci := 11) (v := .int 0) (C := RX11) (T := TX11) (N := 79) hx hb hts inB_11 hown hE.1 hP 0 rfl rfl 21 (by decide) (hts _ k_1341) (fun _ h9 => h9) rfl dX11_about_139 ?_
                            exact ret 0 () _ _ _ _ _ _ rfl (pt_X11_about_593 p1 c1 c2 c3 c4 c5 c6 c7 c8 c9 c10 c11 c12 c13) (hP.sub [] rfl) (hD.sub [] (by decide) rfl) hS dX11_about_142 (Nat.le_of_ble_eq_true rfl) (Nat.le_of_ble_eq_true rfl)
                          · skip
                            by_cases c14 : p1 = 13
                            · skip
                              refine lv_tableIn (off := 142) (tgt := 143) hx hb dX11_about_1 (by rw [c14]; decide) (by rw [c14]; decide) (by rw [c14]; decide) (by decide) ?_
                              refine lv_aload_n hx hb dX11_about_143 rfl (lv_at hl 0 rfl) ?_
                              refine va_get (D := (dC, dI)) (ci := 11) (v := .int 0) (C := RX11) (T := TX11) (N := 79) hx hb hts inB_11 hown hE.1 hP 0 rfl rfl 67 (by decide) (hts _ k_1387) (fun _ h9 => h9) rfl dX11_about_144 ?_
                              exact ret 0 () _ _ _ _ _ _ rfl (pt_X11_about_594 p1 c1 c2 c3 c4 c5 c6 c7 c8 c9 c10 c11 c12 c13 c14) (hP.sub [] rfl) (hD.sub [] (by decide) rfl) hS dX11_about_147 (Nat.le_of_ble_eq_true rfl) (Nat.le_of_ble_eq_true rfl)
                            · skip
                              refine lv_tableOut (tgt := 148) hx hb dX11_about_1 (po_X11_about_595 p1 c1 c2 c3 c4 c5 c6 c7 c8 c9 c10 c11 c12 c13 c14) (by decide) ?_
                              refine lv_iconst (v := (-1)) hx hb dX11_about_148 (by decide) ?_
                              exact ret (-1) () _ _ _ _ _ _ rfl (pt_X11_about_596 p1 c1 c2 c3 c4 c5 c6 c7 c8 c9 c10 c11 c12 c13 c14) (hP.sub [] rfl) (hD.sub [] (by decide) rfl) hS dX11_about_149 (Nat.le_of_ble_eq_true rfl) (Nat.le_of_ble_eq_true rfl)
