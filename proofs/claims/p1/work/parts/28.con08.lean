theorem pt_X11_ease_450 : (0 : Int32) = F_ease  := by
  unfold F_ease
  (repeat' split)
  all_goals first | rfl | assumption | (exfalso; simp only [fa_lt, fa_le, fa_eq, tl_0] at *; omega) | (simp only [fa_lt, fa_le, fa_eq, tl_0] at *; omega)
set_option maxHeartbeats 4000000 in
set_option maxRecDepth 100000 in
theorem cnX11_ease_1 (l : Launch) (dC : Nat → ClassId) (dI : Nat → Nat → Nat) (cy : Nat → ClassId) (h0 : Nat) (r : Nat → Nat) : ctI l (dC, dI) cy yX11_ease cX11_ease 3 .int 2 81 0 0 Unit [.ref h0] [(h0, .inr (11, mFs r mv0)), ((r 59), .inl (cy 1, 39, .inl zF)), ((r 60), .inl (cy 1, 39, .inl zF))] (fun r _ => r = F_ease ) (fun u => []) := by
  refine ctI_of (by decide) (Nat.le_of_ble_eq_true rfl) (fun p e s m below meth c A ls Q hx hb hml hts hown hE hP hD hA hl ret => ?_)
  have hown : s.vm.findClass RX11 = some m.cls := hown
  have hS : va_S A s.heap s.heap [] := va_S.rf
  have hl : lv_has ls 3 [(0, .ref h0)] := hl
  refine lv_aload_n hx hb dX11_ease_0 rfl (lv_at hl 0 rfl) ?_
  refine caVv (n := 0) (wr := []) (rest := []) hx hb hml hown hts hE hP hD hS hA (cnX11_fill_1 l dC dI cy h0 r) k_1739 k_1741 k_71 k_114 k_1742 (by decide +kernel) ⟨Nat.le_of_ble_eq_true rfl, Nat.le_of_ble_eq_true rfl⟩ [0, 1, 2] [] rfl rfl rfl (by decide) (by decide) (by decide) 0 11 rfl rfl rfl hl.1 rfl (Nat.le_of_ble_eq_true rfl) dX11_ease_1 ⟨Nat.le_of_ble_eq_true rfl, Nat.le_of_ble_eq_true rfl⟩ (fun u H locs hw hP hD hS => ?_)
  have hP : va_P (dC, dI) vwCl [(h0, .inr (11, mFs r mv0)), ((r 59), .inl (cy 1, 39, .inl zF)), ((r 60), .inl (cy 1, 39, .inl zF))] H := hP
  have hD : va_D A [(h0, .inr (11, mFs r mv0)), ((r 59), .inl (cy 1, 39, .inl zF)), ((r 60), .inl (cy 1, 39, .inl zF))] := hD
  refine lv_iconst (v := 0) hx hb dX11_ease_4 (by decide) ?_
  refine lv_istore_n (lv' := [(1, .int 0), (0, .ref h0)]) hx hb dX11_ease_5 rfl hl (by decide) rfl (fun ls hl => ?_)
  refine lv_iconst (v := 0) hx hb dX11_ease_6 (by decide) ?_
  refine lv_istore_n (lv' := [(2, .int 0), (1, .int 0), (0, .ref h0)]) hx hb dX11_ease_7 rfl hl (by decide) rfl (fun ls hl => ?_)
  refine lv_iload_n hx hb dX11_ease_8 rfl (lv_at hl 0 rfl) ?_
  refine lv_aload_n hx hb dX11_ease_9 rfl (lv_at hl 2 rfl) ?_
  refine va_get (D := (dC, dI)) (ci := 11) (v := .int 0) (C := RX11) (T := TX11) (N := 79) hx hb hts inB_11 hown hE.1 hP 0 rfl rfl 48 (by decide) (hts _ k_1368) (fun _ h9 => h9) rfl dX11_ease_10 ?_
  refine lv_icmp_ge (tgt := 32) hx hb dX11_ease_13 (by decide) (fun _ => ?_) (fun c0 => absurd (by decide) c0)
  refine lv_iload_n hx hb dX11_ease_32 rfl (lv_at hl 1 rfl) ?_
  exact ret 0 () _ _ _ _ _ _ rfl (pt_X11_ease_450 ) (hP.sub [] rfl) (hD.sub [] (by decide) rfl) hS dX11_ease_33 (Nat.le_of_ble_eq_true rfl) (Nat.le_of_ble_eq_true rfl)
theorem pt_X10_breadth_451 : (0 : Int32) = F_breadth  := by
  unfold F_breadth
  (repeat' split)
  all_goals first | rfl | assumption | (exfalso; simp only [fa_lt, fa_le, fa_eq, tl_0] at *; omega) | (simp only [fa_lt, fa_le, fa_eq, tl_0] at *; omega)
set_option maxHeartbeats 4000000 in
set_option maxRecDepth 100000 in
theorem cnX10_breadth_1 (l : Launch) (dC : Nat → ClassId) (dI : Nat → Nat → Nat) (cy : Nat → ClassId) (h0 : Nat) (h1 : Nat) (h2 : Nat) (h3 : Nat) (b0 : Nat) (b1 : Nat) (b2 : Nat) (b3 : Nat) (b4 : Nat) (b5 : Nat) (b6 : Nat) (b7 : Nat) (b8 : Nat) (b9 : Nat) (b10 : Nat) : ctI l (dC, dI) cy yX10_breadth cX10_breadth 1 .int 2 83 0 0 Unit [.ref h0] [(h0, .inr (10, [.ref b0, .ref b1, .ref h2, .ref h1, .ref b2, .ref b3, .ref h3, .ref b4, .ref b5, .int 0])), (h1, .inr (1, [.ref h2, .ref b6])), (h2, .inr (7, [.ref b7, .ref b8, .ref b9, .int 0, .int 0, .int 10, .int 150, .int 2, .int 0, .int 0])), (h3, .inr (2, [.ref h2, .ref h1, .ref b10]))] (fun r _ => r = F_breadth ) (fun u => []) := by
  refine ctI_of (by decide) (Nat.le_of_ble_eq_true rfl) (fun p e s m below meth c A ls Q hx hb hml hts hown hE hP hD hA hl ret => ?_)
  have hown : s.vm.findClass RX10 = some m.cls := hown
  have hS : va_S A s.heap s.heap [] := va_S.rf
  have hl : lv_has ls 1 [(0, .ref h0)] := hl
  refine lv_aload_n hx hb dX10_breadth_0 rfl (lv_at hl 0 rfl) ?_
  refine va_get (D := (dC, dI)) (ci := 10) (v := .ref h3) (C := RX10) (T := TX10) (N := 10) hx hb hts inB_10 hown hE.1 hP 0 rfl rfl 6 (by decide) (hts _ k_497) (fun _ h9 => h9) rfl dX10_breadth_1 ?_
  refine lv_aload_n hx hb dX10_breadth_4 rfl (lv_at hl 0 rfl) ?_
  refine va_get (D := (dC, dI)) (ci := 10) (v := .ref h1) (C := RX10) (T := TX10) (N := 10) hx hb hts inB_10 hown hE.1 hP 0 rfl rfl 3 (by decide) (hts _ k_494) (fun _ h9 => h9) rfl dX10_breadth_5 ?_
  refine caVi (n := 0) (wr := [(h0, .inr (10, [.ref b0, .ref b1, .ref h2, .ref h1, .ref b2, .ref b3, .ref h3, .ref b4, .ref b5, .int 0])), (h3, .inr (2, [.ref h2, .ref h1, .ref b10]))]) (rest := [.ref h3]) hx hb hml hown hts hE hP hD hS hA (cnX1_wearers_1 l dC dI cy h1 h2 b6 b7 b8 b9) k_1196 k_1061 k_1062 k_106 k_1063 (by decide +kernel) ⟨Nat.le_of_ble_eq_true rfl, Nat.le_of_ble_eq_true rfl⟩ [1, 2] [0, 3] rfl rfl rfl (by decide) (by decide) (by decide) 0 1 rfl rfl rfl hl.1 rfl (Nat.le_of_ble_eq_true rfl) dX10_breadth_8 ⟨Nat.le_of_ble_eq_true rfl, Nat.le_of_ble_eq_true rfl⟩ (fun rr u H locs hw hP hD hS => ?_)
  have hP : va_P (dC, dI) vwCl [(h0, .inr (10, [.ref b0, .ref b1, .ref h2, .ref h1, .ref b2, .ref b3, .ref h3, .ref b4, .ref b5, .int 0])), (h3, .inr (2, [.ref h2, .ref h1, .ref b10])), (h1, .inr (1, [.ref h2, .ref b6])), (h2, .inr (7, [.ref b7, .ref b8, .ref b9, .int 0, .int 0, .int 10, .int 150, .int 2, .int 0, .int 0]))] H := hP
  have hD : va_D A [(h0, .inr (10, [.ref b0, .ref b1, .ref h2, .ref h1, .ref b2, .ref b3, .ref h3, .ref b4, .ref b5, .int 0])), (h3, .inr (2, [.ref h2, .ref h1, .ref b10])), (h1, .inr (1, [.ref h2, .ref b6])), (h2, .inr (7, [.ref b7, .ref b8, .ref b9, .int 0, .int 0, .int 10, .int 150, .int 2, .int 0, .int 0]))] := hD
  refine tI (y := 0) hw ?_
  refine caVi (n := 1) (wr := [(h0, .inr (10, [.ref b0, .ref b1, .ref h2, .ref h1, .ref b2, .ref b3, .ref h3, .ref b4, .ref b5, .int 0])), (h1, .inr (1, [.ref h2, .ref b6]))]) (rest := []) hx hb hml hown hts hE hP hD hS hA (cnX2_wideTogether_1 l dC dI cy h3 h2 h1 b10 b7 b8 b9) k_1197 k_1066 k_1067 k_110 k_1068 (by decide +kernel) ⟨Nat.le_of_ble_eq_true rfl, Nat.le_of_ble_eq_true rfl⟩ [1, 3] [0, 2] rfl rfl rfl (by decide) (by decide) (by decide) 0 2 rfl rfl rfl hl.1 rfl (Nat.le_of_ble_eq_true rfl) dX10_breadth_11 ⟨Nat.le_of_ble_eq_true rfl, Nat.le_of_ble_eq_true rfl⟩ (fun rr u H locs hw hP hD hS => ?_)
  have hP : va_P (dC, dI) vwCl [(h0, .inr (10, [.ref b0, .ref b1, .ref h2, .ref h1, .ref b2, .ref b3, .ref h3, .ref b4, .ref b5, .int 0])), (h1, .inr (1, [.ref h2, .ref b6])), (h3, .inr (2, [.ref h2, .ref h1, .ref b10])), (h2, .inr (7, [.ref b7, .ref b8, .ref b9, .int 0, .int 0, .int 10, .int 150, .int 2, .int 0, .int 0]))] H := hP
  have hD : va_D A [(h0, .inr (10, [.ref b0, .ref b1, .ref h2, .ref h1, .ref b2, .ref b3, .ref h3, .ref b4, .ref b5, .int 0])), (h1, .inr (1, [.ref h2, .ref b6])), (h3, .inr (2, [.ref h2, .ref h1, .ref b10])), (h2, .inr (7, [.ref b7, .ref b8, .ref b9, .int 0, .int 0, .int 10, .int 150, .int 2, .int 0, .int 0]))] := hD
  refine tI (y := 0) hw ?_
  exact ret 0 () _ _ _ _ _ _ rfl (pt_X10_breadth_451 ) (hP.sub [] rfl) (hD.sub [] (by decide) rfl) hS dX10_breadth_14 (Nat.le_of_ble_eq_true rfl) (Nat.le_of_ble_eq_true rfl)
theorem pt_X11_breadth_458 : (0 : Int32) = F_breadth  := by
  unfold F_breadth
  (repeat' split)
  all_goals first | rfl | assumption | (exfalso; simp only [fa_lt, fa_le, fa_eq, tl_0] at *; omega) | (simp only [fa_lt, fa_le, fa_eq, tl_0] at *; omega)
set_option maxHeartbeats 4000000 in
set_option maxRecDepth 100000 in
theorem cnX11_breadth_1 (l : Launch) (dC : Nat → ClassId) (dI : Nat → Nat → Nat) (cy : Nat → ClassId) (h0 : Nat) (r : Nat → Nat) : ctI l (dC, dI) cy yX11_breadth cX11_breadth 1 .int 2 83 0 0 Unit [.ref h0] [(h0, .inr (11, mFs r mv0)), ((r 59), .inl (cy 1, 39, .inl zF)), ((r 60), .inl (cy 1, 39, .inl zF))] (fun r _ => r = F_breadth ) (fun u => []) := by
  refine ctI_of (by decide) (Nat.le_of_ble_eq_true rfl) (fun p e s m below meth c A ls Q hx hb hml hts hown hE hP hD hA hl ret => ?_)
  have hown : s.vm.findClass RX11 = some m.cls := hown
  have hS : va_S A s.heap s.heap [] := va_S.rf
  have hl : lv_has ls 1 [(0, .ref h0)] := hl
  refine lv_aload_n hx hb dX11_breadth_0 rfl (lv_at hl 0 rfl) ?_
  refine caVv (n := 0) (wr := []) (rest := []) hx hb hml hown hts hE hP hD hS hA (cnX11_fill_1 l dC dI cy h0 r) k_1739 k_1741 k_71 k_114 k_1742 (by decide +kernel) ⟨Nat.le_of_ble_eq_true rfl, Nat.le_of_ble_eq_true rfl⟩ [0, 1, 2] [] rfl rfl rfl (by decide) (by decide) (by decide) 0 11 rfl rfl rfl hl.1 rfl (Nat.le_of_ble_eq_true rfl) dX11_breadth_1 ⟨Nat.le_of_ble_eq_true rfl, Nat.le_of_ble_eq_true rfl⟩ (fun u H locs hw hP hD hS => ?_)
  have hP : va_P (dC, dI) vwCl [(h0, .inr (11, mFs r mv0)), ((r 59), .inl (cy 1, 39, .inl zF)), ((r 60), .inl (cy 1, 39, .inl zF))] H := hP
  have hD : va_D A [(h0, .inr (11, mFs r mv0)), ((r 59), .inl (cy 1, 39, .inl zF)), ((r 60), .inl (cy 1, 39, .inl zF))] := hD
  refine lv_aload_n hx hb dX11_breadth_4 rfl (lv_at hl 0 rfl) ?_
  refine lv_aload_n hx hb dX11_breadth_5 rfl (lv_at hl 0 rfl) ?_
  refine caVi (n := 0) (wr := [((r 59), .inl (cy 1, 39, .inl zF)), ((r 60), .inl (cy 1, 39, .inl zF))]) (rest := [.ref h0]) hx hb hml hown hts hE hP hD hS hA (cnX11_wearers_2 l dC dI cy h0 r) k_1805 k_1807 k_80 k_114 k_1808 (by decide +kernel) ⟨Nat.le_of_ble_eq_true rfl, Nat.le_of_ble_eq_true rfl⟩ [0] [1, 2] rfl rfl rfl (by decide) (by decide) (by decide) 0 11 rfl rfl rfl hl.1 rfl (Nat.le_of_ble_eq_true rfl) dX11_breadth_6 ⟨Nat.le_of_ble_eq_true rfl, Nat.le_of_ble_eq_true rfl⟩ (fun rr u H locs hw hP hD hS => ?_)
  have hP : va_P (dC, dI) vwCl [((r 59), .inl (cy 1, 39, .inl zF)), ((r 60), .inl (cy 1, 39, .inl zF)), (h0, .inr (11, mFs r mv0))] H := hP
  have hD : va_D A [((r 59), .inl (cy 1, 39, .inl zF)), ((r 60), .inl (cy 1, 39, .inl zF)), (h0, .inr (11, mFs r mv0))] := hD
  refine tI (y := 0) hw ?_
  refine caVi (n := 1) (wr := [((r 59), .inl (cy 1, 39, .inl zF)), ((r 60), .inl (cy 1, 39, .inl zF))]) (rest := []) hx hb hml hown hts hE hP hD hS hA (cnX11_wideOf_1 l dC dI cy h0 r) k_1912 k_1914 k_88 k_114 k_1915 (by decide +kernel) ⟨Nat.le_of_ble_eq_true rfl, Nat.le_of_ble_eq_true rfl⟩ [2] [0, 1] rfl rfl rfl (by decide) (by decide) (by decide) 0 11 rfl rfl rfl hl.1 rfl (Nat.le_of_ble_eq_true rfl) dX11_breadth_9 ⟨Nat.le_of_ble_eq_true rfl, Nat.le_of_ble_eq_true rfl⟩ (fun rr u H locs hw hP hD hS => ?_)
  have hP : va_P (dC, dI) vwCl [((r 59), .inl (cy 1, 39, .inl zF)), ((r 60), .inl (cy 1, 39, .inl zF)), (h0, .inr (11, mFs r mv0))] H := hP
  have hD : va_D A [((r 59), .inl (cy 1, 39, .inl zF)), ((r 60), .inl (cy 1, 39, .inl zF)), (h0, .inr (11, mFs r mv0))] := hD
  refine tI (y := 0) hw ?_
  exact ret 0 () _ _ _ _ _ _ rfl (pt_X11_breadth_458 ) (hP.sub [] rfl) (hD.sub [] (by decide) rfl) hS dX11_breadth_12 (Nat.le_of_ble_eq_true rfl) (Nat.le_of_ble_eq_true rfl)
set_option maxHeartbeats 4000000 in
set_option maxRecDepth 100000 in
theorem cnX1_copy_1 (l : Launch) (dC : Nat → ClassId) (dI : Nat → Nat → Nat) (cy : Nat → ClassId) (h0 : Nat) (h1 : Nat) (h2 : Nat) (h3 : Nat) (b0 : Nat) : ctV l (dC, dI) cy yX1_copy cX1_copy 2 1 100 0 0 Unit [.ref h1, .ref h0] [(h0, .inr (1, [.ref b0, .ref h2])), (h1, .inr (1, [.ref b0, .ref h3])), (h2, .inl (cy 1, 44, .inl cF)), (h3, .inl (cy 1, 44, .inl cF))] (fun _ => True) (fun u => [(h0, .inr (1, [.ref b0, .ref h2])), (h1, .inr (1, [.ref b0, .ref h3])), (h2, .inl (cy 1, 44, .inl cF)), (h3, .inl (cy 1, 44, .inl cF))]) := by
  refine ctV_of (by decide) (Nat.le_of_ble_eq_true rfl) (fun p e s m below meth c A ls Q hx hb hml hts hown hnm hE hP hD hA hl ret => ?_)
  have hown : s.vm.findClass RX1 = some m.cls := hown
  have hS : va_S A s.heap s.heap [] := va_S.rf
  have hl : lv_has ls 2 [(0, .ref h1), (1, .ref h0)] := hl
  refine lv_aload_n hx hb dX1_copy_0 rfl (lv_at hl 1 rfl) ?_
  refine va_get (D := (dC, dI)) (ci := 1) (v := .ref h2) (C := RX1) (T := TX1) (N := 2) hx hb hts inB_1 hown hE.1 hP 0 rfl rfl 1 (by decide) (hts _ k_319) (fun _ h9 => h9) rfl dX1_copy_1 ?_
  refine lv_iconst (v := 0) hx hb dX1_copy_4 (by decide) ?_
  refine lv_aload_n hx hb dX1_copy_5 rfl (lv_at hl 0 rfl) ?_
  refine va_get (D := (dC, dI)) (ci := 1) (v := .ref h3) (C := RX1) (T := TX1) (N := 2) hx hb hts inB_1 hown hE.1 hP 1 rfl rfl 1 (by decide) (hts _ k_319) (fun _ h9 => h9) rfl dX1_copy_6 ?_
  refine lv_iconst (v := 0) hx hb dX1_copy_9 (by decide) ?_
  refine lv_bipush (v := 44) hx hb dX1_copy_10 (by decide) ?_
  refine cpI (n := 44) (sp := 0) (dp := 0) (kn := 44) (ks := 0) (kd := 0) hx hb (by rw [hml]; exact hl.1.symm) hown (hts _ k_335) (hts _ k_337) (hts _ k_336) (hts _ k_108) hE hP hD hS 2 3 rfl rfl rfl rfl rfl (by decide) (by decide) (Nat.le_of_ble_eq_true rfl) (Nat.le_of_ble_eq_true rfl) dX1_copy_12 (fun H locs hP hD hS => ?_)
  have eU : va_cpy cF cF 0 0 44 = cF := cpy_ss _ _ _
  rw [eU] at hP hD
  have hP : va_P (dC, dI) vwCl [(h0, .inr (1, [.ref b0, .ref h2])), (h1, .inr (1, [.ref b0, .ref h3])), (h2, .inl (cy 1, 44, .inl cF)), (h3, .inl (cy 1, 44, .inl cF))] H := hP
  have hD : va_D A [(h0, .inr (1, [.ref b0, .ref h2])), (h1, .inr (1, [.ref b0, .ref h3])), (h2, .inl (cy 1, 44, .inl cF)), (h3, .inl (cy 1, 44, .inl cF))] := hD
  exact ret () _ _ _ _ _ _ trivial (hP.sub [0, 1, 2, 3] rfl) (hD.sub [0, 1, 2, 3] (by decide) rfl) hS dX1_copy_15 (Nat.le_of_ble_eq_true rfl) (Nat.le_of_ble_eq_true rfl)
set_option maxHeartbeats 4000000 in
set_option maxRecDepth 100000 in
theorem cnX3_daysTillRout_1 (l : Launch) (dC : Nat → ClassId) (dI : Nat → Nat → Nat) (cy : Nat → ClassId) (h0 : Nat) (h1 : Nat) (h2 : Nat) (h3 : Nat) (h4 : Nat) (h5 : Nat) (b0 : Nat) (b1 : Nat) (b2 : Nat) : ctI l (dC, dI) cy yX3_daysTillRout cX3_daysTillRout 2 .int 2 121 0 0 Unit [.ref h0] [(h0, .inr (3, [.ref h5, .ref h1, .ref h2, .int 0, .int 0, .int 0, .int 0, .int 0, .int 0, .int 0])), (h1, .inr (1, [.ref h5, .ref h3])), (h2, .inr (1, [.ref h5, .ref h4])), (h3, .inl (cy 1, 44, .inl cF)), (h4, .inl (cy 1, 44, .inl cF)), (h5, .inr (7, [.ref b0, .ref b1, .ref b2, .int 0, .int 0, .int 10, .int 150, .int 2, .int 0, .int 0]))] (fun r _ => r = 0) (fun u => [(h0, .inr (3, [.ref h5, .ref h1, .ref h2, .int 0, .int 0, .int 0, .int 0, .int 0, .int 0, .int 0])), (h1, .inr (1, [.ref h5, .ref h3])), (h2, .inr (1, [.ref h5, .ref h4])), (h3, .inl (cy 1, 44, .inl cF)), (h4, .inl (cy 1, 44, .inl cF)), (h5, .inr (7, [.ref b0, .ref b1, .ref b2, .int 0, .int 0, .int 10, .int 150, .int 2, .int 0, .int 0]))]) := by
  refine ctI_of (by decide) (Nat.le_of_ble_eq_true rfl) (fun p e s m below meth c A ls Q hx hb hml hts hown hE hP hD hA hl ret => ?_)
  have hown : s.vm.findClass RX3 = some m.cls := hown
  have hS : va_S A s.heap s.heap [] := va_S.rf
  have hl : lv_has ls 2 [(0, .ref h0)] := hl
  refine lv_aload_n hx hb dX3_daysTillRout_0 rfl (lv_at hl 0 rfl) ?_
  refine va_get (D := (dC, dI)) (ci := 3) (v := .ref h2) (C := RX3) (T := TX3) (N := 10) hx hb hts inB_3 hown hE.1 hP 0 rfl rfl 2 (by decide) (hts _ k_372) (fun _ h9 => h9) rfl dX3_daysTillRout_1 ?_
  refine lv_aload_n hx hb dX3_daysTillRout_4 rfl (lv_at hl 0 rfl) ?_
  refine va_get (D := (dC, dI)) (ci := 3) (v := .ref h1) (C := RX3) (T := TX3) (N := 10) hx hb hts inB_3 hown hE.1 hP 0 rfl rfl 1 (by decide) (hts _ k_371) (fun _ h9 => h9) rfl dX3_daysTillRout_5 ?_
  refine caVv (n := 1) (wr := [(h0, .inr (3, [.ref h5, .ref h1, .ref h2, .int 0, .int 0, .int 0, .int 0, .int 0, .int 0, .int 0])), (h5, .inr (7, [.ref b0, .ref b1, .ref b2, .int 0, .int 0, .int 10, .int 150, .int 2, .int 0, .int 0]))]) (rest := []) hx hb hml hown hts hE hP hD hS hA (cnX1_copy_1 l dC dI cy h1 h2 h3 h4 h5) k_945 k_946 k_947 k_106 k_948 (by decide +kernel) ⟨Nat.le_of_ble_eq_true rfl, Nat.le_of_ble_eq_true rfl⟩ [1, 2, 3, 4] [0, 5] rfl rfl rfl (by decide) (by decide) (by decide) 1 1 rfl rfl rfl hl.1 rfl (Nat.le_of_ble_eq_true rfl) dX3_daysTillRout_8 ⟨Nat.le_of_ble_eq_true rfl, Nat.le_of_ble_eq_true rfl⟩ (fun u H locs hw hP hD hS => ?_)
  have hP : va_P (dC, dI) vwCl [(h0, .inr (3, [.ref h5, .ref h1, .ref h2, .int 0, .int 0, .int 0, .int 0, .int 0, .int 0, .int 0])), (h5, .inr (7, [.ref b0, .ref b1, .ref b2, .int 0, .int 0, .int 10, .int 150, .int 2, .int 0, .int 0])), (h1, .inr (1, [.ref h5, .ref h3])), (h2, .inr (1, [.ref h5, .ref h4])), (h3, .inl (cy 1, 44, .inl cF)), (h4, .inl (cy 1, 44, .inl cF))] H := hP
  have hD : va_D A [(h0, .inr (3, [.ref h5, .ref h1, .ref h2, .int 0, .int 0, .int 0, .int 0, .int 0, .int 0, .int 0])), (h5, .inr (7, [.ref b0, .ref b1, .ref b2, .int 0, .int 0, .int 10, .int 150, .int 2, .int 0, .int 0])), (h1, .inr (1, [.ref h5, .ref h3])), (h2, .inr (1, [.ref h5, .ref h4])), (h3, .inl (cy 1, 44, .inl cF)), (h4, .inl (cy 1, 44, .inl cF))] := hD
  refine lv_iconst (v := 0) hx hb dX3_daysTillRout_11 (by decide) ?_
  refine lv_istore_n (lv' := [(1, .int 0), (0, .ref h0)]) hx hb dX3_daysTillRout_12 rfl hl (by decide) rfl (fun ls hl => ?_)
  refine lv_iload_n hx hb dX3_daysTillRout_13 rfl (lv_at hl 0 rfl) ?_
  refine lv_bipush (v := 60) hx hb dX3_daysTillRout_14 (by decide) ?_
  refine lv_icmp_gt (tgt := 46) hx hb dX3_daysTillRout_16 (by decide) (fun c0 => absurd c0 (by decide)) (fun _ => ?_)
  refine lv_aload_n hx hb dX3_daysTillRout_19 rfl (lv_at hl 1 rfl) ?_
  refine va_get (D := (dC, dI)) (ci := 3) (v := .ref h2) (C := RX3) (T := TX3) (N := 10) hx hb hts inB_3 hown hE.1 hP 0 rfl rfl 2 (by decide) (hts _ k_372) (fun _ h9 => h9) rfl dX3_daysTillRout_20 ?_
  refine caVi (n := 0) (wr := [(h0, .inr (3, [.ref h5, .ref h1, .ref h2, .int 0, .int 0, .int 0, .int 0, .int 0, .int 0, .int 0])), (h1, .inr (1, [.ref h5, .ref h3])), (h3, .inl (cy 1, 44, .inl cF)), (h4, .inl (cy 1, 44, .inl cF))]) (rest := []) hx hb hml hown hts hE hP hD hS hA (cnX1_wearers_1 l dC dI cy h2 h5 h4 b0 b1 b2) k_1206 k_1061 k_1062 k_106 k_1063 (by decide +kernel) ⟨Nat.le_of_ble_eq_true rfl, Nat.le_of_ble_eq_true rfl⟩ [3, 1] [0, 2, 4, 5] rfl rfl rfl (by decide) (by decide) (by decide) 0 1 rfl rfl rfl hl.1 rfl (Nat.le_of_ble_eq_true rfl) dX3_daysTillRout_23 ⟨Nat.le_of_ble_eq_true rfl, Nat.le_of_ble_eq_true rfl⟩ (fun rr u H locs hw hP hD hS => ?_)
  have hP : va_P (dC, dI) vwCl [(h0, .inr (3, [.ref h5, .ref h1, .ref h2, .int 0, .int 0, .int 0, .int 0, .int 0, .int 0, .int 0])), (h1, .inr (1, [.ref h5, .ref h3])), (h3, .inl (cy 1, 44, .inl cF)), (h4, .inl (cy 1, 44, .inl cF)), (h2, .inr (1, [.ref h5, .ref h4])), (h5, .inr (7, [.ref b0, .ref b1, .ref b2, .int 0, .int 0, .int 10, .int 150, .int 2, .int 0, .int 0]))] H := hP
  have hD : va_D A [(h0, .inr (3, [.ref h5, .ref h1, .ref h2, .int 0, .int 0, .int 0, .int 0, .int 0, .int 0, .int 0])), (h1, .inr (1, [.ref h5, .ref h3])), (h3, .inl (cy 1, 44, .inl cF)), (h4, .inl (cy 1, 44, .inl cF)), (h2, .inr (1, [.ref h5, .ref h4])), (h5, .inr (7, [.ref b0, .ref b1, .ref b2, .int 0, .int 0, .int 10, .int 150, .int 2, .int 0, .int 0]))] := hD
  refine tI (y := 0) hw ?_
  refine lv_if_ne (tgt := 31) hx hb dX3_daysTillRout_26 (by decide) (fun c0 => absurd (by decide) c0) (fun _ => ?_)
  refine lv_iload_n hx hb dX3_daysTillRout_29 rfl (lv_at hl 0 rfl) ?_
  exact ret 0 () _ _ _ _ _ _ rfl rfl (hP.sub [0, 1, 4, 2, 3, 5] rfl) (hD.sub [0, 1, 4, 2, 3, 5] (by decide) rfl) hS dX3_daysTillRout_30 (Nat.le_of_ble_eq_true rfl) (Nat.le_of_ble_eq_true rfl)
theorem pt_X10_rout_459 : (0 : Int32) = F_rout  := by
  unfold F_rout
  (repeat' split)
  all_goals first | rfl | assumption | (exfalso; simp only [fa_lt, fa_le, fa_eq, tl_0] at *; omega) | (simp only [fa_lt, fa_le, fa_eq, tl_0] at *; omega)
set_option maxHeartbeats 4000000 in
set_option maxRecDepth 100000 in
theorem cnX10_rout_1 (l : Launch) (dC : Nat → ClassId) (dI : Nat → Nat → Nat) (cy : Nat → ClassId) (h0 : Nat) (h1 : Nat) (h2 : Nat) (h3 : Nat) (h4 : Nat) (h5 : Nat) (h6 : Nat) (b0 : Nat) (b1 : Nat) (b2 : Nat) (b3 : Nat) (b4 : Nat) (b5 : Nat) (b6 : Nat) (b7 : Nat) (b8 : Nat) : ctI l (dC, dI) cy yX10_rout cX10_rout 1 .int 3 142 0 0 Unit [.ref h0] [(h0, .inr (10, [.ref b0, .ref b1, .ref h6, .ref h2, .ref b2, .ref h1, .ref b3, .ref b4, .ref b5, .int 0])), (h1, .inr (3, [.ref h6, .ref h2, .ref h3, .int 0, .int 0, .int 0, .int 0, .int 0, .int 0, .int 0])), (h2, .inr (1, [.ref h6, .ref h4])), (h3, .inr (1, [.ref h6, .ref h5])), (h4, .inl (cy 1, 44, .inl cF)), (h5, .inl (cy 1, 44, .inl cF)), (h6, .inr (7, [.ref b6, .ref b7, .ref b8, .int 0, .int 0, .int 10, .int 150, .int 2, .int 0, .int 0]))] (fun r _ => r = F_rout ) (fun u => []) := by
  refine ctI_of (by decide) (Nat.le_of_ble_eq_true rfl) (fun p e s m below meth c A ls Q hx hb hml hts hown hE hP hD hA hl ret => ?_)
  have hown : s.vm.findClass RX10 = some m.cls := hown
  have hS : va_S A s.heap s.heap [] := va_S.rf
  have hl : lv_has ls 1 [(0, .ref h0)] := hl
  refine lv_aload_n hx hb dX10_rout_0 rfl (lv_at hl 0 rfl) ?_
  refine va_get (D := (dC, dI)) (ci := 10) (v := .ref h1) (C := RX10) (T := TX10) (N := 10) hx hb hts inB_10 hown hE.1 hP 0 rfl rfl 5 (by decide) (hts _ k_496) (fun _ h9 => h9) rfl dX10_rout_1 ?_
  refine caVi (n := 0) (wr := [(h0, .inr (10, [.ref b0, .ref b1, .ref h6, .ref h2, .ref b2, .ref h1, .ref b3, .ref b4, .ref b5, .int 0]))]) (rest := []) hx hb hml hown hts hE hP hD hS hA (cnX3_daysTillRout_1 l dC dI cy h1 h2 h3 h4 h5 h6 b6 b7 b8) k_1202 k_1203 k_1204 k_109 k_1205 (by decide +kernel) ⟨Nat.le_of_ble_eq_true rfl, Nat.le_of_ble_eq_true rfl⟩ [1, 2, 3, 4, 5, 6] [0] rfl rfl rfl (by decide) (by decide) (by decide) 0 3 rfl rfl rfl hl.1 rfl (Nat.le_of_ble_eq_true rfl) dX10_rout_4 ⟨Nat.le_of_ble_eq_true rfl, Nat.le_of_ble_eq_true rfl⟩ (fun rr u H locs hw hP hD hS => ?_)
  have hP : va_P (dC, dI) vwCl [(h0, .inr (10, [.ref b0, .ref b1, .ref h6, .ref h2, .ref b2, .ref h1, .ref b3, .ref b4, .ref b5, .int 0])), (h1, .inr (3, [.ref h6, .ref h2, .ref h3, .int 0, .int 0, .int 0, .int 0, .int 0, .int 0, .int 0])), (h2, .inr (1, [.ref h6, .ref h4])), (h3, .inr (1, [.ref h6, .ref h5])), (h4, .inl (cy 1, 44, .inl cF)), (h5, .inl (cy 1, 44, .inl cF)), (h6, .inr (7, [.ref b6, .ref b7, .ref b8, .int 0, .int 0, .int 10, .int 150, .int 2, .int 0, .int 0]))] H := hP
  have hD : va_D A [(h0, .inr (10, [.ref b0, .ref b1, .ref h6, .ref h2, .ref b2, .ref h1, .ref b3, .ref b4, .ref b5, .int 0])), (h1, .inr (3, [.ref h6, .ref h2, .ref h3, .int 0, .int 0, .int 0, .int 0, .int 0, .int 0, .int 0])), (h2, .inr (1, [.ref h6, .ref h4])), (h3, .inr (1, [.ref h6, .ref h5])), (h4, .inl (cy 1, 44, .inl cF)), (h5, .inl (cy 1, 44, .inl cF)), (h6, .inr (7, [.ref b6, .ref b7, .ref b8, .int 0, .int 0, .int 10, .int 150, .int 2, .int 0, .int 0]))] := hD
  refine tI (y := 0) hw ?_
  exact ret 0 () _ _ _ _ _ _ rfl (pt_X10_rout_459 ) (hP.sub [] rfl) (hD.sub [] (by decide) rfl) hS dX10_rout_7 (Nat.le_of_ble_eq_true rfl) (Nat.le_of_ble_eq_true rfl)
theorem pt_X11_rout_466 : (0 : Int32) = F_rout  := by
  unfold F_rout
  (repeat' split)
  all_goals first | rfl | assumption | (exfalso; simp only [fa_lt, fa_le, fa_eq, tl_0] at *; omega) | (simp only [fa_lt, fa_le, fa_eq, tl_0] at *; omega)
set_option maxHeartbeats 4000000 in
set_option maxRecDepth 100000 in
theorem cnX11_rout_1 (l : Launch) (dC : Nat → ClassId) (dI : Nat → Nat → Nat) (cy : Nat → ClassId) (h0 : Nat) (r : Nat → Nat) : ctI l (dC, dI) cy yX11_rout cX11_rout 2 .int 2 82 0 0 Unit [.ref h0] [(h0, .inr (11, mFs r mv0)), ((r 59), .inl (cy 1, 39, .inl zF)), ((r 60), .inl (cy 1, 39, .inl zF))] (fun r _ => r = F_rout ) (fun u => []) := by
  refine ctI_of (by decide) (Nat.le_of_ble_eq_true rfl) (fun p e s m below meth c A ls Q hx hb hml hts hown hE hP hD hA hl ret => ?_)
  have hown : s.vm.findClass RX11 = some m.cls := hown
  have hS : va_S A s.heap s.heap [] := va_S.rf
  have hl : lv_has ls 2 [(0, .ref h0)] := hl
  refine lv_aload_n hx hb dX11_rout_0 rfl (lv_at hl 0 rfl) ?_
  refine caVv (n := 0) (wr := []) (rest := []) hx hb hml hown hts hE hP hD hS hA (cnX11_fill_1 l dC dI cy h0 r) k_1739 k_1741 k_71 k_114 k_1742 (by decide +kernel) ⟨Nat.le_of_ble_eq_true rfl, Nat.le_of_ble_eq_true rfl⟩ [0, 1, 2] [] rfl rfl rfl (by decide) (by decide) (by decide) 0 11 rfl rfl rfl hl.1 rfl (Nat.le_of_ble_eq_true rfl) dX11_rout_1 ⟨Nat.le_of_ble_eq_true rfl, Nat.le_of_ble_eq_true rfl⟩ (fun u H locs hw hP hD hS => ?_)
  have hP : va_P (dC, dI) vwCl [(h0, .inr (11, mFs r mv0)), ((r 59), .inl (cy 1, 39, .inl zF)), ((r 60), .inl (cy 1, 39, .inl zF))] H := hP
  have hD : va_D A [(h0, .inr (11, mFs r mv0)), ((r 59), .inl (cy 1, 39, .inl zF)), ((r 60), .inl (cy 1, 39, .inl zF))] := hD
  refine lv_iconst (v := 0) hx hb dX11_rout_4 (by decide) ?_
  refine lv_istore_n (lv' := [(1, .int 0), (0, .ref h0)]) hx hb dX11_rout_5 rfl hl (by decide) rfl (fun ls hl => ?_)
  refine lv_iload_n hx hb dX11_rout_6 rfl (lv_at hl 0 rfl) ?_
  refine lv_bipush (v := 60) hx hb dX11_rout_7 (by decide) ?_
  refine lv_icmp_gt (tgt := 33) hx hb dX11_rout_9 (by decide) (fun c0 => absurd c0 (by decide)) (fun _ => ?_)
  refine lv_aload_n hx hb dX11_rout_12 rfl (lv_at hl 1 rfl) ?_
  refine caVi (n := 0) (wr := [((r 59), .inl (cy 1, 39, .inl zF)), ((r 60), .inl (cy 1, 39, .inl zF))]) (rest := []) hx hb hml hown hts hE hP hD hS hA (cnX11_wearers_2 l dC dI cy h0 r) k_1805 k_1807 k_80 k_114 k_1808 (by decide +kernel) ⟨Nat.le_of_ble_eq_true rfl, Nat.le_of_ble_eq_true rfl⟩ [0] [1, 2] rfl rfl rfl (by decide) (by decide) (by decide) 0 11 rfl rfl rfl hl.1 rfl (Nat.le_of_ble_eq_true rfl) dX11_rout_13 ⟨Nat.le_of_ble_eq_true rfl, Nat.le_of_ble_eq_true rfl⟩ (fun rr u H locs hw hP hD hS => ?_)
  have hP : va_P (dC, dI) vwCl [((r 59), .inl (cy 1, 39, .inl zF)), ((r 60), .inl (cy 1, 39, .inl zF)), (h0, .inr (11, mFs r mv0))] H := hP
  have hD : va_D A [((r 59), .inl (cy 1, 39, .inl zF)), ((r 60), .inl (cy 1, 39, .inl zF)), (h0, .inr (11, mFs r mv0))] := hD
  refine tI (y := 0) hw ?_
  refine lv_if_ne (tgt := 21) hx hb dX11_rout_16 (by decide) (fun c0 => absurd (by decide) c0) (fun _ => ?_)
  refine lv_iload_n hx hb dX11_rout_19 rfl (lv_at hl 0 rfl) ?_
  exact ret 0 () _ _ _ _ _ _ rfl (pt_X11_rout_466 ) (hP.sub [] rfl) (hD.sub [] (by decide) rfl) hS dX11_rout_20 (Nat.le_of_ble_eq_true rfl) (Nat.le_of_ble_eq_true rfl)
set_option maxHeartbeats 4000000 in
set_option maxRecDepth 100000 in
theorem cnX10_commonDivisor_1 (l : Launch) (dC : Nat → ClassId) (dI : Nat → Nat → Nat) (cy : Nat → ClassId)  : ctI l (dC, dI) cy yX10_commonDivisor cX10_commonDivisor 6 .int 1 60 0 0 Unit [.int 1, .int 1] [] (fun r _ => r = 1) (fun u => []) := by
  refine ctI_of (by decide) (Nat.le_of_ble_eq_true rfl) (fun p e s m below meth c A ls Q hx hb hml hts hown hE hP hD hA hl ret => ?_)
  have hown : s.vm.findClass RX10 = some m.cls := hown
  have hS : va_S A s.heap s.heap [] := va_S.rf
  have hl : lv_has ls 6 [(0, .int 1), (1, .int 1)] := hl
  refine lv_iload_n hx hb dX10_commonDivisor_0 rfl (lv_at hl 0 rfl) ?_
  refine lv_istore_n (lv' := [(2, .int 1), (0, .int 1), (1, .int 1)]) hx hb dX10_commonDivisor_1 rfl hl (by decide) rfl (fun ls hl => ?_)
  refine lv_iload_n hx hb dX10_commonDivisor_2 rfl (lv_at hl 2 rfl) ?_
  refine lv_istore_n (lv' := [(3, .int 1), (2, .int 1), (0, .int 1), (1, .int 1)]) hx hb dX10_commonDivisor_3 rfl hl (by decide) rfl (fun ls hl => ?_)
  refine lv_iconst (v := 0) hx hb dX10_commonDivisor_4 (by decide) ?_
  refine lv_istore (lv' := [(4, .int 0), (3, .int 1), (2, .int 1), (0, .int 1), (1, .int 1)]) hx hb dX10_commonDivisor_5 hl (by decide) rfl (fun ls hl => ?_)
  refine lv_iload hx hb dX10_commonDivisor_7 (lv_at hl 0 rfl) ?_
  refine lv_bipush (v := 100) hx hb dX10_commonDivisor_9 (by decide) ?_
  refine lv_icmp_ge (tgt := 34) hx hb dX10_commonDivisor_11 (by decide) (fun c0 => absurd c0 (by decide)) (fun _ => ?_)
  refine lv_iload_n hx hb dX10_commonDivisor_14 rfl (lv_at hl 1 rfl) ?_
  refine lv_if_eq (tgt := 34) hx hb dX10_commonDivisor_15 (by decide) (fun c0 => absurd c0 (by decide)) (fun _ => ?_)
  refine lv_iload_n hx hb dX10_commonDivisor_18 rfl (lv_at hl 2 rfl) ?_
  refine lv_iload_n hx hb dX10_commonDivisor_19 rfl (lv_at hl 1 rfl) ?_
  refine lv_irem hx hb dX10_commonDivisor_20 (by decide) ?_
  refine tI (y := 0) (by decide) ?_
  refine lv_istore (lv' := [(5, .int 0), (4, .int 0), (3, .int 1), (2, .int 1), (0, .int 1), (1, .int 1)]) hx hb dX10_commonDivisor_21 hl (by decide) rfl (fun ls hl => ?_)
  refine lv_iload_n hx hb dX10_commonDivisor_23 rfl (lv_at hl 2 rfl) ?_
  refine lv_istore_n (lv' := [(2, .int 1), (5, .int 0), (4, .int 0), (3, .int 1), (0, .int 1), (1, .int 1)]) hx hb dX10_commonDivisor_24 rfl hl (by decide) rfl (fun ls hl => ?_)
  refine lv_iload hx hb dX10_commonDivisor_25 (lv_at hl 1 rfl) ?_
  refine lv_istore_n (lv' := [(3, .int 0), (2, .int 1), (5, .int 0), (4, .int 0), (0, .int 1), (1, .int 1)]) hx hb dX10_commonDivisor_27 rfl hl (by decide) rfl (fun ls hl => ?_)
  refine lv_iinc (v := 1) (lv' := [(4, .int 1), (3, .int 0), (2, .int 1), (5, .int 0), (0, .int 1), (1, .int 1)]) hx hb dX10_commonDivisor_28 hl (k := 3) rfl (by decide) (by decide) rfl (fun ls hl => ?_)
  refine lv_goto (tgt := 7) hx hb dX10_commonDivisor_31 (by decide) ?_
  refine lv_iload hx hb dX10_commonDivisor_7 (lv_at hl 0 rfl) ?_
  refine lv_bipush (v := 100) hx hb dX10_commonDivisor_9 (by decide) ?_
  refine lv_icmp_ge (tgt := 34) hx hb dX10_commonDivisor_11 (by decide) (fun c0 => absurd c0 (by decide)) (fun _ => ?_)
  refine lv_iload_n hx hb dX10_commonDivisor_14 rfl (lv_at hl 1 rfl) ?_
  refine lv_if_eq (tgt := 34) hx hb dX10_commonDivisor_15 (by decide) (fun _ => ?_) (fun c0 => absurd (by decide) c0)
  refine lv_iload_n hx hb dX10_commonDivisor_34 rfl (lv_at hl 2 rfl) ?_
  exact ret 1 () _ _ _ _ _ _ rfl rfl (hP.sub [] rfl) (hD.sub [] (by decide) rfl) hS dX10_commonDivisor_35 (Nat.le_of_ble_eq_true rfl) (Nat.le_of_ble_eq_true rfl)
set_option maxHeartbeats 4000000 in
set_option maxRecDepth 100000 in
theorem cnX10_commonDivisor_2 (l : Launch) (dC : Nat → ClassId) (dI : Nat → Nat → Nat) (cy : Nat → ClassId)  : ctI l (dC, dI) cy yX10_commonDivisor cX10_commonDivisor 6 .int 1 60 0 0 Unit [.int 100, .int 100] [] (fun r _ => r = 100) (fun u => []) := by
  refine ctI_of (by decide) (Nat.le_of_ble_eq_true rfl) (fun p e s m below meth c A ls Q hx hb hml hts hown hE hP hD hA hl ret => ?_)
  have hown : s.vm.findClass RX10 = some m.cls := hown
  have hS : va_S A s.heap s.heap [] := va_S.rf
  have hl : lv_has ls 6 [(0, .int 100), (1, .int 100)] := hl
  refine lv_iload_n hx hb dX10_commonDivisor_0 rfl (lv_at hl 0 rfl) ?_
  refine lv_istore_n (lv' := [(2, .int 100), (0, .int 100), (1, .int 100)]) hx hb dX10_commonDivisor_1 rfl hl (by decide) rfl (fun ls hl => ?_)
  refine lv_iload_n hx hb dX10_commonDivisor_2 rfl (lv_at hl 2 rfl) ?_
  refine lv_istore_n (lv' := [(3, .int 100), (2, .int 100), (0, .int 100), (1, .int 100)]) hx hb dX10_commonDivisor_3 rfl hl (by decide) rfl (fun ls hl => ?_)
  refine lv_iconst (v := 0) hx hb dX10_commonDivisor_4 (by decide) ?_
  refine lv_istore (lv' := [(4, .int 0), (3, .int 100), (2, .int 100), (0, .int 100), (1, .int 100)]) hx hb dX10_commonDivisor_5 hl (by decide) rfl (fun ls hl => ?_)
  refine lv_iload hx hb dX10_commonDivisor_7 (lv_at hl 0 rfl) ?_
  refine lv_bipush (v := 100) hx hb dX10_commonDivisor_9 (by decide) ?_
  refine lv_icmp_ge (tgt := 34) hx hb dX10_commonDivisor_11 (by decide) (fun c0 => absurd c0 (by decide)) (fun _ => ?_)
  refine lv_iload_n hx hb dX10_commonDivisor_14 rfl (lv_at hl 1 rfl) ?_
  refine lv_if_eq (tgt := 34) hx hb dX10_commonDivisor_15 (by decide) (fun c0 => absurd c0 (by decide)) (fun _ => ?_)
  refine lv_iload_n hx hb dX10_commonDivisor_18 rfl (lv_at hl 2 rfl) ?_
  refine lv_iload_n hx hb dX10_commonDivisor_19 rfl (lv_at hl 1 rfl) ?_
  refine lv_irem hx hb dX10_commonDivisor_20 (by decide) ?_
  refine tI (y := 0) (by decide) ?_
  refine lv_istore (lv' := [(5, .int 0), (4, .int 0), (3, .int 100), (2, .int 100), (0, .int 100), (1, .int 100)]) hx hb dX10_commonDivisor_21 hl (by decide) rfl (fun ls hl => ?_)
  refine lv_iload_n hx hb dX10_commonDivisor_23 rfl (lv_at hl 2 rfl) ?_
  refine lv_istore_n (lv' := [(2, .int 100), (5, .int 0), (4, .int 0), (3, .int 100), (0, .int 100), (1, .int 100)]) hx hb dX10_commonDivisor_24 rfl hl (by decide) rfl (fun ls hl => ?_)
  refine lv_iload hx hb dX10_commonDivisor_25 (lv_at hl 1 rfl) ?_
  refine lv_istore_n (lv' := [(3, .int 0), (2, .int 100), (5, .int 0), (4, .int 0), (0, .int 100), (1, .int 100)]) hx hb dX10_commonDivisor_27 rfl hl (by decide) rfl (fun ls hl => ?_)
  refine lv_iinc (v := 1) (lv' := [(4, .int 1), (3, .int 0), (2, .int 100), (5, .int 0), (0, .int 100), (1, .int 100)]) hx hb dX10_commonDivisor_28 hl (k := 3) rfl (by decide) (by decide) rfl (fun ls hl => ?_)
  refine lv_goto (tgt := 7) hx hb dX10_commonDivisor_31 (by decide) ?_
  refine lv_iload hx hb dX10_commonDivisor_7 (lv_at hl 0 rfl) ?_
  refine lv_bipush (v := 100) hx hb dX10_commonDivisor_9 (by decide) ?_
  refine lv_icmp_ge (tgt := 34) hx hb dX10_commonDivisor_11 (by decide) (fun c0 => absurd c0 (by decide)) (fun _ => ?_)
  refine lv_iload_n hx hb dX10_commonDivisor_14 rfl (lv_at hl 1 rfl) ?_
  refine lv_if_eq (tgt := 34) hx hb dX10_commonDivisor_15 (by decide) (fun _ => ?_) (fun c0 => absurd (by decide) c0)
  refine lv_iload_n hx hb dX10_commonDivisor_34 rfl (lv_at hl 2 rfl) ?_
  exact ret 100 () _ _ _ _ _ _ rfl rfl (hP.sub [] rfl) (hD.sub [] (by decide) rfl) hS dX10_commonDivisor_35 (Nat.le_of_ble_eq_true rfl) (Nat.le_of_ble_eq_true rfl)
set_option maxHeartbeats 4000000 in
set_option maxRecDepth 100000 in
theorem cnX10_commonDivisor_3 (l : Launch) (dC : Nat → ClassId) (dI : Nat → Nat → Nat) (cy : Nat → ClassId)  : ctI l (dC, dI) cy yX10_commonDivisor cX10_commonDivisor 6 .int 1 60 0 0 Unit [.int 10000, .int 10000] [] (fun r _ => r = 10000) (fun u => []) := by
  refine ctI_of (by decide) (Nat.le_of_ble_eq_true rfl) (fun p e s m below meth c A ls Q hx hb hml hts hown hE hP hD hA hl ret => ?_)
  have hown : s.vm.findClass RX10 = some m.cls := hown
  have hS : va_S A s.heap s.heap [] := va_S.rf
  have hl : lv_has ls 6 [(0, .int 10000), (1, .int 10000)] := hl
  refine lv_iload_n hx hb dX10_commonDivisor_0 rfl (lv_at hl 0 rfl) ?_
  refine lv_istore_n (lv' := [(2, .int 10000), (0, .int 10000), (1, .int 10000)]) hx hb dX10_commonDivisor_1 rfl hl (by decide) rfl (fun ls hl => ?_)
  refine lv_iload_n hx hb dX10_commonDivisor_2 rfl (lv_at hl 2 rfl) ?_
  refine lv_istore_n (lv' := [(3, .int 10000), (2, .int 10000), (0, .int 10000), (1, .int 10000)]) hx hb dX10_commonDivisor_3 rfl hl (by decide) rfl (fun ls hl => ?_)
  refine lv_iconst (v := 0) hx hb dX10_commonDivisor_4 (by decide) ?_
  refine lv_istore (lv' := [(4, .int 0), (3, .int 10000), (2, .int 10000), (0, .int 10000), (1, .int 10000)]) hx hb dX10_commonDivisor_5 hl (by decide) rfl (fun ls hl => ?_)
  refine lv_iload hx hb dX10_commonDivisor_7 (lv_at hl 0 rfl) ?_
  refine lv_bipush (v := 100) hx hb dX10_commonDivisor_9 (by decide) ?_
  refine lv_icmp_ge (tgt := 34) hx hb dX10_commonDivisor_11 (by decide) (fun c0 => absurd c0 (by decide)) (fun _ => ?_)
  refine lv_iload_n hx hb dX10_commonDivisor_14 rfl (lv_at hl 1 rfl) ?_
  refine lv_if_eq (tgt := 34) hx hb dX10_commonDivisor_15 (by decide) (fun c0 => absurd c0 (by decide)) (fun _ => ?_)
  refine lv_iload_n hx hb dX10_commonDivisor_18 rfl (lv_at hl 2 rfl) ?_
  refine lv_iload_n hx hb dX10_commonDivisor_19 rfl (lv_at hl 1 rfl) ?_
  refine lv_irem hx hb dX10_commonDivisor_20 (by decide) ?_
  refine tI (y := 0) (by decide) ?_
  refine lv_istore (lv' := [(5, .int 0), (4, .int 0), (3, .int 10000), (2, .int 10000), (0, .int 10000), (1, .int 10000)]) hx hb dX10_commonDivisor_21 hl (by decide) rfl (fun ls hl => ?_)
  refine lv_iload_n hx hb dX10_commonDivisor_23 rfl (lv_at hl 2 rfl) ?_
  refine lv_istore_n (lv' := [(2, .int 10000), (5, .int 0), (4, .int 0), (3, .int 10000), (0, .int 10000), (1, .int 10000)]) hx hb dX10_commonDivisor_24 rfl hl (by decide) rfl (fun ls hl => ?_)
  refine lv_iload hx hb dX10_commonDivisor_25 (lv_at hl 1 rfl) ?_
  refine lv_istore_n (lv' := [(3, .int 0), (2, .int 10000), (5, .int 0), (4, .int 0), (0, .int 10000), (1, .int 10000)]) hx hb dX10_commonDivisor_27 rfl hl (by decide) rfl (fun ls hl => ?_)
  refine lv_iinc (v := 1) (lv' := [(4, .int 1), (3, .int 0), (2, .int 10000), (5, .int 0), (0, .int 10000), (1, .int 10000)]) hx hb dX10_commonDivisor_28 hl (k := 3) rfl (by decide) (by decide) rfl (fun ls hl => ?_)
  refine lv_goto (tgt := 7) hx hb dX10_commonDivisor_31 (by decide) ?_
  refine lv_iload hx hb dX10_commonDivisor_7 (lv_at hl 0 rfl) ?_
  refine lv_bipush (v := 100) hx hb dX10_commonDivisor_9 (by decide) ?_
  refine lv_icmp_ge (tgt := 34) hx hb dX10_commonDivisor_11 (by decide) (fun c0 => absurd c0 (by decide)) (fun _ => ?_)
  refine lv_iload_n hx hb dX10_commonDivisor_14 rfl (lv_at hl 1 rfl) ?_
  refine lv_if_eq (tgt := 34) hx hb dX10_commonDivisor_15 (by decide) (fun _ => ?_) (fun c0 => absurd (by decide) c0)
  refine lv_iload_n hx hb dX10_commonDivisor_34 rfl (lv_at hl 2 rfl) ?_
  exact ret 10000 () _ _ _ _ _ _ rfl rfl (hP.sub [] rfl) (hD.sub [] (by decide) rfl) hS dX10_commonDivisor_35 (Nat.le_of_ble_eq_true rfl) (Nat.le_of_ble_eq_true rfl)
set_option maxHeartbeats 4000000 in
set_option maxRecDepth 100000 in
theorem cnX10_commonDivisor_4 (l : Launch) (dC : Nat → ClassId) (dI : Nat → Nat → Nat) (cy : Nat → ClassId)  : ctI l (dC, dI) cy yX10_commonDivisor cX10_commonDivisor 6 .int 1 60 0 0 Unit [.int 1000000, .int 1000000] [] (fun r _ => r = 1000000) (fun u => []) := by
  refine ctI_of (by decide) (Nat.le_of_ble_eq_true rfl) (fun p e s m below meth c A ls Q hx hb hml hts hown hE hP hD hA hl ret => ?_)
  have hown : s.vm.findClass RX10 = some m.cls := hown
  have hS : va_S A s.heap s.heap [] := va_S.rf
  have hl : lv_has ls 6 [(0, .int 1000000), (1, .int 1000000)] := hl
  refine lv_iload_n hx hb dX10_commonDivisor_0 rfl (lv_at hl 0 rfl) ?_
  refine lv_istore_n (lv' := [(2, .int 1000000), (0, .int 1000000), (1, .int 1000000)]) hx hb dX10_commonDivisor_1 rfl hl (by decide) rfl (fun ls hl => ?_)
  refine lv_iload_n hx hb dX10_commonDivisor_2 rfl (lv_at hl 2 rfl) ?_
  refine lv_istore_n (lv' := [(3, .int 1000000), (2, .int 1000000), (0, .int 1000000), (1, .int 1000000)]) hx hb dX10_commonDivisor_3 rfl hl (by decide) rfl (fun ls hl => ?_)
  refine lv_iconst (v := 0) hx hb dX10_commonDivisor_4 (by decide) ?_
  refine lv_istore (lv' := [(4, .int 0), (3, .int 1000000), (2, .int 1000000), (0, .int 1000000), (1, .int 1000000)]) hx hb dX10_commonDivisor_5 hl (by decide) rfl (fun ls hl => ?_)
  refine lv_iload hx hb dX10_commonDivisor_7 (lv_at hl 0 rfl) ?_
  refine lv_bipush (v := 100) hx hb dX10_commonDivisor_9 (by decide) ?_
  refine lv_icmp_ge (tgt := 34) hx hb dX10_commonDivisor_11 (by decide) (fun c0 => absurd c0 (by decide)) (fun _ => ?_)
  refine lv_iload_n hx hb dX10_commonDivisor_14 rfl (lv_at hl 1 rfl) ?_
  refine lv_if_eq (tgt := 34) hx hb dX10_commonDivisor_15 (by decide) (fun c0 => absurd c0 (by decide)) (fun _ => ?_)
  refine lv_iload_n hx hb dX10_commonDivisor_18 rfl (lv_at hl 2 rfl) ?_
  refine lv_iload_n hx hb dX10_commonDivisor_19 rfl (lv_at hl 1 rfl) ?_
  refine lv_irem hx hb dX10_commonDivisor_20 (by decide) ?_
  refine tI (y := 0) (by decide) ?_
  refine lv_istore (lv' := [(5, .int 0), (4, .int 0), (3, .int 1000000), (2, .int 1000000), (0, .int 1000000), (1, .int 1000000)]) hx hb dX10_commonDivisor_21 hl (by decide) rfl (fun ls hl => ?_)
  refine lv_iload_n hx hb dX10_commonDivisor_23 rfl (lv_at hl 2 rfl) ?_
  refine lv_istore_n (lv' := [(2, .int 1000000), (5, .int 0), (4, .int 0), (3, .int 1000000), (0, .int 1000000), (1, .int 1000000)]) hx hb dX10_commonDivisor_24 rfl hl (by decide) rfl (fun ls hl => ?_)
  refine lv_iload hx hb dX10_commonDivisor_25 (lv_at hl 1 rfl) ?_
  refine lv_istore_n (lv' := [(3, .int 0), (2, .int 1000000), (5, .int 0), (4, .int 0), (0, .int 1000000), (1, .int 1000000)]) hx hb dX10_commonDivisor_27 rfl hl (by decide) rfl (fun ls hl => ?_)
  refine lv_iinc (v := 1) (lv' := [(4, .int 1), (3, .int 0), (2, .int 1000000), (5, .int 0), (0, .int 1000000), (1, .int 1000000)]) hx hb dX10_commonDivisor_28 hl (k := 3) rfl (by decide) (by decide) rfl (fun ls hl => ?_)
  refine lv_goto (tgt := 7) hx hb dX10_commonDivisor_31 (by decide) ?_
  refine lv_iload hx hb dX10_commonDivisor_7 (lv_at hl 0 rfl) ?_
  refine lv_bipush (v := 100) hx hb dX10_commonDivisor_9 (by decide) ?_
  refine lv_icmp_ge (tgt := 34) hx hb dX10_commonDivisor_11 (by decide) (fun c0 => absurd c0 (by decide)) (fun _ => ?_)
  refine lv_iload_n hx hb dX10_commonDivisor_14 rfl (lv_at hl 1 rfl) ?_
  refine lv_if_eq (tgt := 34) hx hb dX10_commonDivisor_15 (by decide) (fun _ => ?_) (fun c0 => absurd (by decide) c0)
  refine lv_iload_n hx hb dX10_commonDivisor_34 rfl (lv_at hl 2 rfl) ?_
  exact ret 1000000 () _ _ _ _ _ _ rfl rfl (hP.sub [] rfl) (hD.sub [] (by decide) rfl) hS dX10_commonDivisor_35 (Nat.le_of_ble_eq_true rfl) (Nat.le_of_ble_eq_true rfl)
set_option maxHeartbeats 4000000 in
set_option maxRecDepth 100000 in
theorem cnX10_commonDivisor_5 (l : Launch) (dC : Nat → ClassId) (dI : Nat → Nat → Nat) (cy : Nat → ClassId)  : ctI l (dC, dI) cy yX10_commonDivisor cX10_commonDivisor 6 .int 1 60 0 0 Unit [.int 100000000, .int 100000000] [] (fun r _ => r = 100000000) (fun u => []) := by
  refine ctI_of (by decide) (Nat.le_of_ble_eq_true rfl) (fun p e s m below meth c A ls Q hx hb hml hts hown hE hP hD hA hl ret => ?_)
  have hown : s.vm.findClass RX10 = some m.cls := hown
  have hS : va_S A s.heap s.heap [] := va_S.rf
  have hl : lv_has ls 6 [(0, .int 100000000), (1, .int 100000000)] := hl
  refine lv_iload_n hx hb dX10_commonDivisor_0 rfl (lv_at hl 0 rfl) ?_
  refine lv_istore_n (lv' := [(2, .int 100000000), (0, .int 100000000), (1, .int 100000000)]) hx hb dX10_commonDivisor_1 rfl hl (by decide) rfl (fun ls hl => ?_)
  refine lv_iload_n hx hb dX10_commonDivisor_2 rfl (lv_at hl 2 rfl) ?_
  refine lv_istore_n (lv' := [(3, .int 100000000), (2, .int 100000000), (0, .int 100000000), (1, .int 100000000)]) hx hb dX10_commonDivisor_3 rfl hl (by decide) rfl (fun ls hl => ?_)
  refine lv_iconst (v := 0) hx hb dX10_commonDivisor_4 (by decide) ?_
  refine lv_istore (lv' := [(4, .int 0), (3, .int 100000000), (2, .int 100000000), (0, .int 100000000), (1, .int 100000000)]) hx hb dX10_commonDivisor_5 hl (by decide) rfl (fun ls hl => ?_)
  refine lv_iload hx hb dX10_commonDivisor_7 (lv_at hl 0 rfl) ?_
  refine lv_bipush (v := 100) hx hb dX10_commonDivisor_9 (by decide) ?_
  refine lv_icmp_ge (tgt := 34) hx hb dX10_commonDivisor_11 (by decide) (fun c0 => absurd c0 (by decide)) (fun _ => ?_)
  refine lv_iload_n hx hb dX10_commonDivisor_14 rfl (lv_at hl 1 rfl) ?_
  refine lv_if_eq (tgt := 34) hx hb dX10_commonDivisor_15 (by decide) (fun c0 => absurd c0 (by decide)) (fun _ => ?_)
  refine lv_iload_n hx hb dX10_commonDivisor_18 rfl (lv_at hl 2 rfl) ?_
  refine lv_iload_n hx hb dX10_commonDivisor_19 rfl (lv_at hl 1 rfl) ?_
  refine lv_irem hx hb dX10_commonDivisor_20 (by decide) ?_
  refine tI (y := 0) (by decide) ?_
  refine lv_istore (lv' := [(5, .int 0), (4, .int 0), (3, .int 100000000), (2, .int 100000000), (0, .int 100000000), (1, .int 100000000)]) hx hb dX10_commonDivisor_21 hl (by decide) rfl (fun ls hl => ?_)
  refine lv_iload_n hx hb dX10_commonDivisor_23 rfl (lv_at hl 2 rfl) ?_
  refine lv_istore_n (lv' := [(2, .int 100000000), (5, .int 0), (4, .int 0), (3, .int 100000000), (0, .int 100000000), (1, .int 100000000)]) hx hb dX10_commonDivisor_24 rfl hl (by decide) rfl (fun ls hl => ?_)
  refine lv_iload hx hb dX10_commonDivisor_25 (lv_at hl 1 rfl) ?_
  refine lv_istore_n (lv' := [(3, .int 0), (2, .int 100000000), (5, .int 0), (4, .int 0), (0, .int 100000000), (1, .int 100000000)]) hx hb dX10_commonDivisor_27 rfl hl (by decide) rfl (fun ls hl => ?_)
  refine lv_iinc (v := 1) (lv' := [(4, .int 1), (3, .int 0), (2, .int 100000000), (5, .int 0), (0, .int 100000000), (1, .int 100000000)]) hx hb dX10_commonDivisor_28 hl (k := 3) rfl (by decide) (by decide) rfl (fun ls hl => ?_)
  refine lv_goto (tgt := 7) hx hb dX10_commonDivisor_31 (by decide) ?_
  refine lv_iload hx hb dX10_commonDivisor_7 (lv_at hl 0 rfl) ?_
  refine lv_bipush (v := 100) hx hb dX10_commonDivisor_9 (by decide) ?_
  refine lv_icmp_ge (tgt := 34) hx hb dX10_commonDivisor_11 (by decide) (fun c0 => absurd c0 (by decide)) (fun _ => ?_)
  refine lv_iload_n hx hb dX10_commonDivisor_14 rfl (lv_at hl 1 rfl) ?_
  refine lv_if_eq (tgt := 34) hx hb dX10_commonDivisor_15 (by decide) (fun _ => ?_) (fun c0 => absurd (by decide) c0)
  refine lv_iload_n hx hb dX10_commonDivisor_34 rfl (lv_at hl 2 rfl) ?_
  exact ret 100000000 () _ _ _ _ _ _ rfl rfl (hP.sub [] rfl) (hD.sub [] (by decide) rfl) hS dX10_commonDivisor_35 (Nat.le_of_ble_eq_true rfl) (Nat.le_of_ble_eq_true rfl)
theorem pt_X10_odds_467 (p1 : Int32) (p2 : Int32) (c1 : p1 < 0) : ((-1) : Int32) = F_odds p1 p2 := by
  unfold F_odds
  (repeat' split)
  all_goals first | rfl | assumption | (exfalso; simp only [fa_lt, fa_le, fa_eq, tl_m1, tl_0, tl_1, tl_4] at *; omega) | (simp only [fa_lt, fa_le, fa_eq, tl_m1, tl_0, tl_1, tl_4] at *; omega)
theorem pt_X10_odds_468 (p1 : Int32) (p2 : Int32) (c1 : ¬ p1 < 0) (c2 : 4 < p1) : ((-1) : Int32) = F_odds p1 p2 := by
  unfold F_odds
  (repeat' split)
  all_goals first | rfl | assumption | (exfalso; simp only [fa_lt, fa_le, fa_eq, tl_m1, tl_0, tl_1, tl_4] at *; omega) | (simp only [fa_lt, fa_le, fa_eq, tl_m1, tl_0, tl_1, tl_4] at *; omega)
theorem pt_X10_odds_469 (p1 : Int32) (p2 : Int32) (c1 : ¬ p1 < 0) (c2 : ¬ 4 < p1) (c3 : p2 < 0) : ((-1) : Int32) = F_odds p1 p2 := by
  unfold F_odds
  (repeat' split)
  all_goals first | rfl | assumption | (exfalso; simp only [fa_lt, fa_le, fa_eq, tl_m1, tl_0, tl_1, tl_4] at *; omega) | (simp only [fa_lt, fa_le, fa_eq, tl_m1, tl_0, tl_1, tl_4] at *; omega)
theorem pt_X10_odds_470 (p1 : Int32) (p2 : Int32) (c1 : ¬ p1 < 0) (c2 : ¬ 4 < p1) (c3 : ¬ p2 < 0) (c4 : p2 ≤ 1) (c5 : p1 ≤ 0) (c6 : ¬ p2 = 0) : (1 : Int32) = F_odds p1 p2 := by
  unfold F_odds
  (repeat' split)
  all_goals first | rfl | assumption | (exfalso; simp only [fa_lt, fa_le, fa_eq, tl_m1, tl_0, tl_1, tl_4] at *; omega) | (simp only [fa_lt, fa_le, fa_eq, tl_m1, tl_0, tl_1, tl_4] at *; omega)
theorem pt_X10_odds_471 (p1 : Int32) (p2 : Int32) (c1 : ¬ p1 < 0) (c2 : ¬ 4 < p1) (c3 : ¬ p2 < 0) (c4 : p2 ≤ 1) (c5 : p1 ≤ 0) (c6 : p2 = 0) : (1 : Int32) = F_odds p1 p2 := by
  unfold F_odds
  (repeat' split)
  all_goals first | rfl | assumption | (exfalso; simp only [fa_lt, fa_le, fa_eq, tl_m1, tl_0, tl_1, tl_4] at *; omega) | (simp only [fa_lt, fa_le, fa_eq, tl_m1, tl_0, tl_1, tl_4] at *; omega)
theorem pt_X10_odds_472 (p1 : Int32) (p2 : Int32) (c1 : ¬ p1 < 0) (c2 : ¬ 4 < p1) (c3 : ¬ p2 < 0) (c4 : p2 ≤ 1) (c5 : ¬ p1 ≤ 0) (c7 : p1 ≤ 1) (c8 : ¬ p2 = 0) : (1 : Int32) = F_odds p1 p2 := by
  unfold F_odds
  (repeat' split)
  all_goals first | rfl | assumption | (exfalso; simp only [fa_lt, fa_le, fa_eq, tl_m1, tl_0, tl_1, tl_4] at *; omega) | (simp only [fa_lt, fa_le, fa_eq, tl_m1, tl_0, tl_1, tl_4] at *; omega)
theorem pt_X10_odds_473 (p1 : Int32) (p2 : Int32) (c1 : ¬ p1 < 0) (c2 : ¬ 4 < p1) (c3 : ¬ p2 < 0) (c4 : p2 ≤ 1) (c5 : ¬ p1 ≤ 0) (c7 : p1 ≤ 1) (c8 : p2 = 0) : (1 : Int32) = F_odds p1 p2 := by
  unfold F_odds
  (repeat' split)
  all_goals first | rfl | assumption | (exfalso; simp only [fa_lt, fa_le, fa_eq, tl_m1, tl_0, tl_1, tl_4] at *; omega) | (simp only [fa_lt, fa_le, fa_eq, tl_m1, tl_0, tl_1, tl_4] at *; omega)
theorem pt_X10_odds_474 (p1 : Int32) (p2 : Int32) (c1 : ¬ p1 < 0) (c2 : ¬ 4 < p1) (c3 : ¬ p2 < 0) (c4 : p2 ≤ 1) (c5 : ¬ p1 ≤ 0) (c7 : ¬ p1 ≤ 1) (c9 : p1 ≤ 2) (c10 : ¬ p2 = 0) : (1 : Int32) = F_odds p1 p2 := by
  unfold F_odds
  (repeat' split)
  all_goals first | rfl | assumption | (exfalso; simp only [fa_lt, fa_le, fa_eq, tl_m1, tl_0, tl_1, tl_2, tl_4] at *; omega) | (simp only [fa_lt, fa_le, fa_eq, tl_m1, tl_0, tl_1, tl_2, tl_4] at *; omega)
theorem pt_X10_odds_475 (p1 : Int32) (p2 : Int32) (c1 : ¬ p1 < 0) (c2 : ¬ 4 < p1) (c3 : ¬ p2 < 0) (c4 : p2 ≤ 1) (c5 : ¬ p1 ≤ 0) (c7 : ¬ p1 ≤ 1) (c9 : p1 ≤ 2) (c10 : p2 = 0) : (1 : Int32) = F_odds p1 p2 := by
  unfold F_odds
  (repeat' split)
  all_goals first | rfl | assumption | (exfalso; simp only [fa_lt, fa_le, fa_eq, tl_m1, tl_0, tl_1, tl_2, tl_4] at *; omega) | (simp only [fa_lt, fa_le, fa_eq, tl_m1, tl_0, tl_1, tl_2, tl_4] at *; omega)
theorem pt_X10_odds_476 (p1 : Int32) (p2 : Int32) (c1 : ¬ p1 < 0) (c2 : ¬ 4 < p1) (c3 : ¬ p2 < 0) (c4 : p2 ≤ 1) (c5 : ¬ p1 ≤ 0) (c7 : ¬ p1 ≤ 1) (c9 : ¬ p1 ≤ 2) (c11 : p1 ≤ 3) (c12 : ¬ p2 = 0) : (1 : Int32) = F_odds p1 p2 := by
  unfold F_odds
  (repeat' split)
  all_goals first | rfl | assumption | (exfalso; simp only [fa_lt, fa_le, fa_eq, tl_m1, tl_0, tl_1, tl_2, tl_3, tl_4] at *; omega) | (simp only [fa_lt, fa_le, fa_eq, tl_m1, tl_0, tl_1, tl_2, tl_3, tl_4] at *; omega)
theorem pt_X10_odds_477 (p1 : Int32) (p2 : Int32) (c1 : ¬ p1 < 0) (c2 : ¬ 4 < p1) (c3 : ¬ p2 < 0) (c4 : p2 ≤ 1) (c5 : ¬ p1 ≤ 0) (c7 : ¬ p1 ≤ 1) (c9 : ¬ p1 ≤ 2) (c11 : p1 ≤ 3) (c12 : p2 = 0) : (1 : Int32) = F_odds p1 p2 := by
  unfold F_odds
  (repeat' split)
  all_goals first | rfl | assumption | (exfalso; simp only [fa_lt, fa_le, fa_eq, tl_m1, tl_0, tl_1, tl_2, tl_3, tl_4] at *; omega) | (simp only [fa_lt, fa_le, fa_eq, tl_m1, tl_0, tl_1, tl_2, tl_3, tl_4] at *; omega)
theorem po_X10_odds_478 (p1 : Int32) (c1 : ¬ p1 < 0) (c2 : ¬ 4 < p1) (c5 : ¬ p1 ≤ 0) (c7 : ¬ p1 ≤ 1) (c9 : ¬ p1 ≤ 2) (c11 : ¬ p1 ≤ 3) : p1 ≤ 4 := by simp only [fa_lt, fa_le, fa_eq, tl_0, tl_1, tl_2, tl_3, tl_4] at *; omega
theorem pt_X10_odds_479 (p1 : Int32) (p2 : Int32) (c1 : ¬ p1 < 0) (c2 : ¬ 4 < p1) (c3 : ¬ p2 < 0) (c4 : p2 ≤ 1) (c5 : ¬ p1 ≤ 0) (c7 : ¬ p1 ≤ 1) (c9 : ¬ p1 ≤ 2) (c11 : ¬ p1 ≤ 3) (c13 : ¬ p2 = 0) : (1 : Int32) = F_odds p1 p2 := by
  unfold F_odds
  (repeat' split)
  all_goals first | rfl | assumption | (exfalso; simp only [fa_lt, fa_le, fa_eq, tl_m1, tl_0, tl_1, tl_2, tl_3, tl_4] at *; omega) | (simp only [fa_lt, fa_le, fa_eq, tl_m1, tl_0, tl_1, tl_2, tl_3, tl_4] at *; omega)
theorem pt_X10_odds_480 (p1 : Int32) (p2 : Int32) (c1 : ¬ p1 < 0) (c2 : ¬ 4 < p1) (c3 : ¬ p2 < 0) (c4 : p2 ≤ 1) (c5 : ¬ p1 ≤ 0) (c7 : ¬ p1 ≤ 1) (c9 : ¬ p1 ≤ 2) (c11 : ¬ p1 ≤ 3) (c13 : p2 = 0) : (1 : Int32) = F_odds p1 p2 := by
  unfold F_odds
  (repeat' split)
  all_goals first | rfl | assumption | (exfalso; simp only [fa_lt, fa_le, fa_eq, tl_m1, tl_0, tl_1, tl_2, tl_3, tl_4] at *; omega) | (simp only [fa_lt, fa_le, fa_eq, tl_m1, tl_0, tl_1, tl_2, tl_3, tl_4] at *; omega)
theorem pt_X10_odds_481 (p1 : Int32) (p2 : Int32) (c1 : ¬ p1 < 0) (c2 : ¬ 4 < p1) (c3 : ¬ p2 < 0) (c4 : ¬ p2 ≤ 1) : ((-1) : Int32) = F_odds p1 p2 := by
  unfold F_odds
  (repeat' split)
  all_goals first | rfl | assumption | (exfalso; simp only [fa_lt, fa_le, fa_eq, tl_m1, tl_0, tl_1, tl_4] at *; omega) | (simp only [fa_lt, fa_le, fa_eq, tl_m1, tl_0, tl_1, tl_4] at *; omega)
set_option maxHeartbeats 4000000 in
set_option maxRecDepth 100000 in
theorem cnX10_odds_1 (l : Launch) (dC : Nat → ClassId) (dI : Nat → Nat → Nat) (cy : Nat → ClassId) (h0 : Nat) (h1 : Nat) (b0 : Nat) (b1 : Nat) (b2 : Nat) (b3 : Nat) (b4 : Nat) (b5 : Nat) (b6 : Nat) (b7 : Nat) (b8 : Nat) (b9 : Nat) (b10 : Nat) (p1 : Int32) (p2 : Int32) : ctI l (dC, dI) cy yX10_odds cX10_odds 6 .int 2 85 0 0 Unit [.ref h0, .int p1, .int p2] [(h0, .inr (10, [.ref b0, .ref b1, .ref h1, .ref b2, .ref b3, .ref b4, .ref b5, .ref b6, .ref b7, .int 0])), (h1, .inr (7, [.ref b8, .ref b9, .ref b10, .int 0, .int 0, .int 10, .int 150, .int 2, .int 0, .int 0]))] (fun r _ => r = F_odds p1 p2) (fun u => []) := by
  refine ctI_of (by decide) (Nat.le_of_ble_eq_true rfl) (fun p e s m below meth c A ls Q hx hb hml hts hown hE hP hD hA hl ret => ?_)
  have hown : s.vm.findClass RX10 = some m.cls := hown
  have hS : va_S A s.heap s.heap [] := va_S.rf
  have hl : lv_has ls 6 [(0, .ref h0), (1, .int p1), (2, .int p2)] := hl
  refine lv_iload_n hx hb dX10_odds_0 rfl (lv_at hl 1 rfl) ?_
  refine lv_if_lt (tgt := 18) hx hb dX10_odds_1 (by decide) (fun c1 => ?_) (fun c1 => ?_)
  · skip
    refine lv_iconst (v := (-1)) hx hb dX10_odds_18 (by decide) ?_
    exact ret (-1) () _ _ _ _ _ _ rfl (pt_X10_odds_467 p1 p2 c1) (hP.sub [] rfl) (hD.sub [] (by decide) rfl) hS dX10_odds_19 (Nat.le_of_ble_eq_true rfl) (Nat.le_of_ble_eq_true rfl)
  · skip
    refine lv_iload_n hx hb dX10_odds_4 rfl (lv_at hl 1 rfl) ?_
    refine lv_iconst (v := 4) hx hb dX10_odds_5 (by decide) ?_
    refine lv_icmp_gt (tgt := 18) hx hb dX10_odds_6 (by decide) (fun c2 => ?_) (fun c2 => ?_)
    · skip
      refine lv_iconst (v := (-1)) hx hb dX10_odds_18 (by decide) ?_
      exact ret (-1) () _ _ _ _ _ _ rfl (pt_X10_odds_468 p1 p2 c1 c2) (hP.sub [] rfl) (hD.sub [] (by decide) rfl) hS dX10_odds_19 (Nat.le_of_ble_eq_true rfl) (Nat.le_of_ble_eq_true rfl)
    · skip
      refine lv_iload_n hx hb dX10_odds_9 rfl (lv_at hl 2 rfl) ?_
      refine lv_if_lt (tgt := 18) hx hb dX10_odds_10 (by decide) (fun c3 => ?_) (fun c3 => ?_)
      · skip
        refine lv_iconst (v := (-1)) hx hb dX10_odds_18 (by decide) ?_
        exact ret (-1) () _ _ _ _ _ _ rfl (pt_X10_odds_469 p1 p2 c1 c2 c3) (hP.sub [] rfl) (hD.sub [] (by decide) rfl) hS dX10_odds_19 (Nat.le_of_ble_eq_true rfl) (Nat.le_of_ble_eq_true rfl)
      · skip
        refine lv_iload_n hx hb dX10_odds_13 rfl (lv_at hl 2 rfl) ?_
        refine lv_iconst (v := 1) hx hb dX10_odds_14 (by decide) ?_
        refine lv_icmp_le (tgt := 20) hx hb dX10_odds_15 (by decide) (fun c4 => ?_) (fun c4 => ?_)
        · skip
          refine lv_iconst (v := 1) hx hb dX10_odds_20 (by decide) ?_
          refine lv_istore_n (lv' := [(3, .int 1), (0, .ref h0), (1, .int p1), (2, .int p2)]) hx hb dX10_odds_21 rfl hl (by decide) rfl (fun ls hl => ?_)
          refine lv_iconst (v := 1) hx hb dX10_odds_22 (by decide) ?_
          refine lv_istore (lv' := [(4, .int 1), (3, .int 1), (0, .ref h0), (1, .int p1), (2, .int p2)]) hx hb dX10_odds_23 hl (by decide) rfl (fun ls hl => ?_)
          refine lv_iconst (v := 0) hx hb dX10_odds_25 (by decide) ?_
          refine lv_istore (lv' := [(5, .int 0), (4, .int 1), (3, .int 1), (0, .ref h0), (1, .int p1), (2, .int p2)]) hx hb dX10_odds_26 hl (by decide) rfl (fun ls hl => ?_)
          refine lv_iload hx hb dX10_odds_28 (lv_at hl 0 rfl) ?_
          refine lv_iload_n hx hb dX10_odds_30 rfl (lv_at hl 4 rfl) ?_
          refine lv_icmp_ge (tgt := 60) hx hb dX10_odds_31 (by decide) (fun c5 => ?_) (fun c5 => ?_)
          · skip
            refine lv_iload hx hb dX10_odds_60 (lv_at hl 1 rfl) ?_
            refine lv_iload_n hx hb dX10_odds_62 rfl (lv_at hl 2 rfl) ?_
            refine caSi (n := 2) (wr := [(h0, .inr (10, [.ref b0, .ref b1, .ref h1, .ref b2, .ref b3, .ref b4, .ref b5, .ref b6, .ref b7, .int 0])), (h1, .inr (7, [.ref b8, .ref b9, .ref b10, .int 0, .int 0, .int 10, .int 150, .int 2, .int 0, .int 0]))]) (rest := []) hx hb hml hown hts hE hP hD hS hA (cnX10_commonDivisor_1 l dC dI cy ) k_1211 k_1212 k_101 k_1213 (by decide +kernel) ⟨Nat.le_of_ble_eq_true rfl, Nat.le_of_ble_eq_true rfl⟩ [] [0, 1] rfl rfl rfl (by decide) (by decide) (by decide) rfl hl.1 rfl (Nat.le_of_ble_eq_true rfl) dX10_odds_63 ⟨Nat.le_of_ble_eq_true rfl, Nat.le_of_ble_eq_true rfl⟩ (fun rr u H locs hw hP hD hS => ?_)
            have hP : va_P (dC, dI) vwCl [(h0, .inr (10, [.ref b0, .ref b1, .ref h1, .ref b2, .ref b3, .ref b4, .ref b5, .ref b6, .ref b7, .int 0])), (h1, .inr (7, [.ref b8, .ref b9, .ref b10, .int 0, .int 0, .int 10, .int 150, .int 2, .int 0, .int 0]))] H := hP
            have hD : va_D A [(h0, .inr (10, [.ref b0, .ref b1, .ref h1, .ref b2, .ref b3, .ref b4, .ref b5, .ref b6, .ref b7, .int 0])), (h1, .inr (7, [.ref b8, .ref b9, .ref b10, .int 0, .int 0, .int 10, .int 150, .int 2, .int 0, .int 0]))] := hD
            refine tI (y := 1) hw ?_
            refine lv_istore (lv' := [(5, .int 1), (4, .int 1), (3, .int 1), (0, .ref h0), (1, .int p1), (2, .int p2)]) hx hb dX10_odds_66 hl (by decide) rfl (fun ls hl => ?_)
            refine lv_iload hx hb dX10_odds_68 (lv_at hl 0 rfl) ?_
            refine lv_iconst (v := 1) hx hb dX10_odds_70 (by decide) ?_
            refine lv_icmp_ge (tgt := 76) hx hb dX10_odds_71 (by decide) (fun _ => ?_) (fun c0 => absurd (by decide) c0)
            refine lv_iload_n hx hb dX10_odds_76 rfl (lv_at hl 5 rfl) ?_
            refine lv_if_ne (tgt := 84) hx hb dX10_odds_77 (by decide) (fun c6 => ?_) (fun c6 => ?_)
            · skip
              refine lv_iload hx hb dX10_odds_84 (lv_at hl 1 rfl) ?_
              refine lv_iload hx hb dX10_odds_86 (lv_at hl 0 rfl) ?_
              refine lv_idiv hx hb dX10_odds_88 (by decide) ?_
              refine tI (y := 1) (by decide) ?_
              exact ret 1 () _ _ _ _ _ _ rfl (pt_X10_odds_470 p1 p2 c1 c2 c3 c4 c5 c6) (hP.sub [] rfl) (hD.sub [] (by decide) rfl) hS dX10_odds_89 (Nat.le_of_ble_eq_true rfl) (Nat.le_of_ble_eq_true rfl)
            · skip
              refine lv_iload_n hx hb dX10_odds_80 rfl (lv_at hl 2 rfl) ?_
              refine lv_goto (tgt := 86) hx hb dX10_odds_81 (by decide) ?_
              refine lv_iload hx hb dX10_odds_86 (lv_at hl 0 rfl) ?_
              refine lv_idiv hx hb dX10_odds_88 (by decide) ?_
              refine tI (y := 1) (by decide) ?_
              exact ret 1 () _ _ _ _ _ _ rfl (pt_X10_odds_471 p1 p2 c1 c2 c3 c4 c5 c6) (hP.sub [] rfl) (hD.sub [] (by decide) rfl) hS dX10_odds_89 (Nat.le_of_ble_eq_true rfl) (Nat.le_of_ble_eq_true rfl)
          · skip
            refine lv_iload_n hx hb dX10_odds_34 rfl (lv_at hl 2 rfl) ?_
            refine lv_bipush (v := 100) hx hb dX10_odds_35 (by decide) ?_
            refine lv_aload_n hx hb dX10_odds_37 rfl (lv_at hl 3 rfl) ?_
            refine va_get (D := (dC, dI)) (ci := 10) (v := .ref h1) (C := RX10) (T := TX10) (N := 10) hx hb hts inB_10 hown hE.1 hP 0 rfl rfl 2 (by decide) (hts _ k_493) (fun _ h9 => h9) rfl dX10_odds_38 ?_
            refine va_getN (D := (dC, dI)) (ci := 7) (v := .int 0) (C := RX7) (T := TX7) (N := 10) hx hb hts inB_7 hown hE.1 hP 1 rfl rfl 8 (by decide) (va_Nw.use rfl (hE.2 _ k_241)) (fun _ h9 => h9) rfl dX10_odds_41 ?_
            refine lv_isub hx hb dX10_odds_44 ?_
            refine tI (y := 100) (by decide) ?_
            refine lv_imul hx hb dX10_odds_45 ?_
            refine tI (y := 100) (by decide) ?_
            refine lv_istore_n (lv' := [(3, .int 100), (5, .int 0), (4, .int 1), (0, .ref h0), (1, .int p1), (2, .int p2)]) hx hb dX10_odds_46 rfl hl (by decide) rfl (fun ls hl => ?_)
            refine lv_iload hx hb dX10_odds_47 (lv_at hl 2 rfl) ?_
            refine lv_bipush (v := 100) hx hb dX10_odds_49 (by decide) ?_
            refine lv_imul hx hb dX10_odds_51 ?_
            refine tI (y := 100) (by decide) ?_
            refine lv_istore (lv' := [(4, .int 100), (3, .int 100), (5, .int 0), (0, .ref h0), (1, .int p1), (2, .int p2)]) hx hb dX10_odds_52 hl (by decide) rfl (fun ls hl => ?_)
            refine lv_iinc (v := 1) (lv' := [(5, .int 1), (4, .int 100), (3, .int 100), (0, .ref h0), (1, .int p1), (2, .int p2)]) hx hb dX10_odds_54 hl (k := 2) rfl (by decide) (by decide) rfl (fun ls hl => ?_)
            refine lv_goto (tgt := 28) hx hb dX10_odds_57 (by decide) ?_
            refine lv_iload hx hb dX10_odds_28 (lv_at hl 0 rfl) ?_
            refine lv_iload_n hx hb dX10_odds_30 rfl (lv_at hl 4 rfl) ?_
            refine lv_icmp_ge (tgt := 60) hx hb dX10_odds_31 (by decide) (fun c7 => ?_) (fun c7 => ?_)
            · skip
              refine lv_iload hx hb dX10_odds_60 (lv_at hl 1 rfl) ?_
              refine lv_iload_n hx hb dX10_odds_62 rfl (lv_at hl 2 rfl) ?_
              refine caSi (n := 2) (wr := [(h0, .inr (10, [.ref b0, .ref b1, .ref h1, .ref b2, .ref b3, .ref b4, .ref b5, .ref b6, .ref b7, .int 0])), (h1, .inr (7, [.ref b8, .ref b9, .ref b10, .int 0, .int 0, .int 10, .int 150, .int 2, .int 0, .int 0]))]) (rest := []) hx hb hml hown hts hE hP hD hS hA (cnX10_commonDivisor_2 l dC dI cy ) k_1211 k_1212 k_101 k_1213 (by decide +kernel) ⟨Nat.le_of_ble_eq_true rfl, Nat.le_of_ble_eq_true rfl⟩ [] [0, 1] rfl rfl rfl (by decide) (by decide) (by decide) rfl hl.1 rfl (Nat.le_of_ble_eq_true rfl) dX10_odds_63 ⟨Nat.le_of_ble_eq_true rfl, Nat.le_of_ble_eq_true rfl⟩ (fun rr u H locs hw hP hD hS => ?_)
              have hP : va_P (dC, dI) vwCl [(h0, .inr (10, [.ref b0, .ref b1, .ref h1, .ref b2, .ref b3, .ref b4, .ref b5, .ref b6, .ref b7, .int 0])), (h1, .inr (7, [.ref b8, .ref b9, .ref b10, .int 0, .int 0, .int 10, .int 150, .int 2, .int 0, .int 0]))] H := hP
              have hD : va_D A [(h0, .inr (10, [.ref b0, .ref b1, .ref h1, .ref b2, .ref b3, .ref b4, .ref b5, .ref b6, .ref b7, .int 0])), (h1, .inr (7, [.ref b8, .ref b9, .ref b10, .int 0, .int 0, .int 10, .int 150, .int 2, .int 0, .int 0]))] := hD
              refine tI (y := 100) hw ?_
              refine lv_istore (lv' := [(5, .int 100), (4, .int 100), (3, .int 100), (0, .ref h0), (1, .int p1), (2, .int p2)]) hx hb dX10_odds_66 hl (by decide) rfl (fun ls hl => ?_)
              refine lv_iload hx hb dX10_odds_68 (lv_at hl 0 rfl) ?_
              refine lv_iconst (v := 1) hx hb dX10_odds_70 (by decide) ?_
              refine lv_icmp_ge (tgt := 76) hx hb dX10_odds_71 (by decide) (fun _ => ?_) (fun c0 => absurd (by decide) c0)
              refine lv_iload_n hx hb dX10_odds_76 rfl (lv_at hl 5 rfl) ?_
              refine lv_if_ne (tgt := 84) hx hb dX10_odds_77 (by decide) (fun c8 => ?_) (fun c8 => ?_)
              · skip
                refine lv_iload hx hb dX10_odds_84 (lv_at hl 1 rfl) ?_
                refine lv_iload hx hb dX10_odds_86 (lv_at hl 0 rfl) ?_
                refine lv_idiv hx hb dX10_odds_88 (by decide) ?_
                refine tI (y := 1) (by decide) ?_
                exact ret 1 () _ _ _ _ _ _ rfl (pt_X10_odds_472 p1 p2 c1 c2 c3 c4 c5 c7 c8) (hP.sub [] rfl) (hD.sub [] (by decide) rfl) hS dX10_odds_89 (Nat.le_of_ble_eq_true rfl) (Nat.le_of_ble_eq_true rfl)
              · skip
                refine lv_iload_n hx hb dX10_odds_80 rfl (lv_at hl 2 rfl) ?_
                refine lv_goto (tgt := 86) hx hb dX10_odds_81 (by decide) ?_
                refine lv_iload hx hb dX10_odds_86 (lv_at hl 0 rfl) ?_
                refine lv_idiv hx hb dX10_odds_88 (by decide) ?_
                refine tI (y := 1) (by decide) ?_
                exact ret 1 () _ _ _ _ _ _ rfl (pt_X10_odds_473 p1 p2 c1 c2 c3 c4 c5 c7 c8) (hP.sub [] rfl) (hD.sub [] (by decide) rfl) hS dX10_odds_89 (Nat.le_of_ble_eq_true rfl) (Nat.le_of_ble_eq_true rfl)
            · skip
              refine lv_iload_n hx hb dX10_odds_34 rfl (lv_at hl 2 rfl) ?_
              refine lv_bipush (v := 100) hx hb dX10_odds_35 (by decide) ?_
              refine lv_aload_n hx hb dX10_odds_37 rfl (lv_at hl 3 rfl) ?_
              refine va_get (D := (dC, dI)) (ci := 10) (v := .ref h1) (C := RX10) (T := TX10) (N := 10) hx hb hts inB_10 hown hE.1 hP 0 rfl rfl 2 (by decide) (hts _ k_493) (fun _ h9 => h9) rfl dX10_odds_38 ?_
              refine va_getN (D := (dC, dI)) (ci := 7) (v := .int 0) (C := RX7) (T := TX7) (N := 10) hx hb hts inB_7 hown hE.1 hP 1 rfl rfl 8 (by decide) (va_Nw.use rfl (hE.2 _ k_241)) (fun _ h9 => h9) rfl dX10_odds_41 ?_
              refine lv_isub hx hb dX10_odds_44 ?_
              refine tI (y := 100) (by decide) ?_
              refine lv_imul hx hb dX10_odds_45 ?_
              refine tI (y := 10000) (by decide) ?_
              refine lv_istore_n (lv' := [(3, .int 10000), (5, .int 1), (4, .int 100), (0, .ref h0), (1, .int p1), (2, .int p2)]) hx hb dX10_odds_46 rfl hl (by decide) rfl (fun ls hl => ?_)
              refine lv_iload hx hb dX10_odds_47 (lv_at hl 2 rfl) ?_
              refine lv_bipush (v := 100) hx hb dX10_odds_49 (by decide) ?_
              refine lv_imul hx hb dX10_odds_51 ?_
              refine tI (y := 10000) (by decide) ?_
              refine lv_istore (lv' := [(4, .int 10000), (3, .int 10000), (5, .int 1), (0, .ref h0), (1, .int p1), (2, .int p2)]) hx hb dX10_odds_52 hl (by decide) rfl (fun ls hl => ?_)
              refine lv_iinc (v := 2) (lv' := [(5, .int 2), (4, .int 10000), (3, .int 10000), (0, .ref h0), (1, .int p1), (2, .int p2)]) hx hb dX10_odds_54 hl (k := 2) rfl (by decide) (by decide) rfl (fun ls hl => ?_)
              refine lv_goto (tgt := 28) hx hb dX10_odds_57 (by decide) ?_
              refine lv_iload hx hb dX10_odds_28 (lv_at hl 0 rfl) ?_
              refine lv_iload_n hx hb dX10_odds_30 rfl (lv_at hl 4 rfl) ?_
              refine lv_icmp_ge (tgt := 60) hx hb dX10_odds_31 (by decide) (fun c9 => ?_) (fun c9 => ?_)
              · skip
                refine lv_iload hx hb dX10_odds_60 (lv_at hl 1 rfl) ?_
                refine lv_iload_n hx hb dX10_odds_62 rfl (lv_at hl 2 rfl) ?_
                refine caSi (n := 2) (wr := [(h0, .inr (10, [.ref b0, .ref b1, .ref h1, .ref b2, .ref b3, .ref b4, .ref b5, .ref b6, .ref b7, .int 0])), (h1, .inr (7, [.ref b8, .ref b9, .ref b10, .int 0, .int 0, .int 10, .int 150, .int 2, .int 0, .int 0]))]) (rest := []) hx hb hml hown hts hE hP hD hS hA (cnX10_commonDivisor_3 l dC dI cy ) k_1211 k_1212 k_101 k_1213 (by decide +kernel) ⟨Nat.le_of_ble_eq_true rfl, Nat.le_of_ble_eq_true rfl⟩ [] [0, 1] rfl rfl rfl (by decide) (by decide) (by decide) rfl hl.1 rfl (Nat.le_of_ble_eq_true rfl) dX10_odds_63 ⟨Nat.le_of_ble_eq_true rfl, Nat.le_of_ble_eq_true rfl⟩ (fun rr u H locs hw hP hD hS => ?_)
                have hP : va_P (dC, dI) vwCl [(h0, .inr (10, [.ref b0, .ref b1, .ref h1, .ref b2, .ref b3, .ref b4, .ref b5, .ref b6, .ref b7, .int 0])), (h1, .inr (7, [.ref b8, .ref b9, .ref b10, .int 0, .int 0, .int 10, .int 150, .int 2, .int 0, .int 0]))] H := hP
                have hD : va_D A [(h0, .inr (10, [.ref b0, .ref b1, .ref h1, .ref b2, .ref b3, .ref b4, .ref b5, .ref b6, .ref b7, .int 0])), (h1, .inr (7, [.ref b8, .ref b9, .ref b10, .int 0, .int 0, .int 10, .int 150, .int 2, .int 0, .int 0]))] := hD
                refine tI (y := 10000) hw ?_
                refine lv_istore (lv' := [(5, .int 10000), (4, .int 10000), (3, .int 10000), (0, .ref h0), (1, .int p1), (2, .int p2)]) hx hb dX10_odds_66 hl (by decide) rfl (fun ls hl => ?_)
                refine lv_iload hx hb dX10_odds_68 (lv_at hl 0 rfl) ?_
                refine lv_iconst (v := 1) hx hb dX10_odds_70 (by decide) ?_
                refine lv_icmp_ge (tgt := 76) hx hb dX10_odds_71 (by decide) (fun _ => ?_) (fun c0 => absurd (by decide) c0)
                refine lv_iload_n hx hb dX10_odds_76 rfl (lv_at hl 5 rfl) ?_
                refine lv_if_ne (tgt := 84) hx hb dX10_odds_77 (by decide) (fun c10 => ?_) (fun c10 => ?_)
                · skip
                  refine lv_iload hx hb dX10_odds_84 (lv_at hl 1 rfl) ?_
                  refine lv_iload hx hb dX10_odds_86 (lv_at hl 0 rfl) ?_
                  refine lv_idiv hx hb dX10_odds_88 (by decide) ?_
                  refine tI (y := 1) (by decide) ?_
                  exact ret 1 () _ _ _ _ _ _ rfl (pt_X10_odds_474 p1 p2 c1 c2 c3 c4 c5 c7 c9 c10) (hP.sub [] rfl) (hD.sub [] (by decide) rfl) hS dX10_odds_89 (Nat.le_of_ble_eq_true rfl) (Nat.le_of_ble_eq_true rfl)
                · skip
                  refine lv_iload_n hx hb dX10_odds_80 rfl (lv_at hl 2 rfl) ?_
                  refine lv_goto (tgt := 86) hx hb dX10_odds_81 (by decide) ?_
                  refine lv_iload hx hb dX10_odds_86 (lv_at hl 0 rfl) ?_
                  refine lv_idiv hx hb dX10_odds_88 (by decide) ?_
                  refine tI (y := 1) (by decide) ?_
                  exact ret 1 () _ _ _ _ _ _ rfl (pt_X10_odds_475 p1 p2 c1 c2 c3 c4 c5 c7 c9 c10) (hP.sub [] rfl) (hD.sub [] (by decide) rfl) hS dX10_odds_89 (Nat.le_of_ble_eq_true rfl) (Nat.le_of_ble_eq_true rfl)
              · skip
                refine lv_iload_n hx hb dX10_odds_34 rfl (lv_at hl 2 rfl) ?_
                refine lv_bipush (v := 100) hx hb dX10_odds_35 (by decide) ?_
                refine lv_aload_n hx hb dX10_odds_37 rfl (lv_at hl 3 rfl) ?_
                refine va_get (D := (dC, dI)) (ci := 10) (v := .ref h1) (C := RX10) (T := TX10) (N := 10) hx hb hts inB_10 hown hE.1 hP 0 rfl rfl 2 (by decide) (hts _ k_493) (fun _ h9 => h9) rfl dX10_odds_38 ?_
                refine va_getN (D := (dC, dI)) (ci := 7) (v := .int 0) (C := RX7) (T := TX7) (N := 10) hx hb hts inB_7 hown hE.1 hP 1 rfl rfl 8 (by decide) (va_Nw.use rfl (hE.2 _ k_241)) (fun _ h9 => h9) rfl dX10_odds_41 ?_
                refine lv_isub hx hb dX10_odds_44 ?_
                refine tI (y := 100) (by decide) ?_
                refine lv_imul hx hb dX10_odds_45 ?_
                refine tI (y := 1000000) (by decide) ?_
                refine lv_istore_n (lv' := [(3, .int 1000000), (5, .int 2), (4, .int 10000), (0, .ref h0), (1, .int p1), (2, .int p2)]) hx hb dX10_odds_46 rfl hl (by decide) rfl (fun ls hl => ?_)
                refine lv_iload hx hb dX10_odds_47 (lv_at hl 2 rfl) ?_
                refine lv_bipush (v := 100) hx hb dX10_odds_49 (by decide) ?_
                refine lv_imul hx hb dX10_odds_51 ?_
                refine tI (y := 1000000) (by decide) ?_
                refine lv_istore (lv' := [(4, .int 1000000), (3, .int 1000000), (5, .int 2), (0, .ref h0), (1, .int p1), (2, .int p2)]) hx hb dX10_odds_52 hl (by decide) rfl (fun ls hl => ?_)
                refine lv_iinc (v := 3) (lv' := [(5, .int 3), (4, .int 1000000), (3, .int 1000000), (0, .ref h0), (1, .int p1), (2, .int p2)]) hx hb dX10_odds_54 hl (k := 2) rfl (by decide) (by decide) rfl (fun ls hl => ?_)
                refine lv_goto (tgt := 28) hx hb dX10_odds_57 (by decide) ?_
                refine lv_iload hx hb dX10_odds_28 (lv_at hl 0 rfl) ?_
                refine lv_iload_n hx hb dX10_odds_30 rfl (lv_at hl 4 rfl) ?_
                refine lv_icmp_ge (tgt := 60) hx hb dX10_odds_31 (by decide) (fun c11 => ?_) (fun c11 => ?_)
                · skip
                  refine lv_iload hx hb dX10_odds_60 (lv_at hl 1 rfl) ?_
                  refine lv_iload_n hx hb dX10_odds_62 rfl (lv_at hl 2 rfl) ?_
                  refine caSi (n := 2) (wr := [(h0, .inr (10, [.ref b0, .ref b1, .ref h1, .ref b2, .ref b3, .ref b4, .ref b5, .ref b6, .ref b7, .int 0])), (h1, .inr (7, [.ref b8, .ref b9, .ref b10, .int 0, .int 0, .int 10, .int 150, .int 2, .int 0, .int 0]))]) (rest := []) hx hb hml hown hts hE hP hD hS hA (cnX10_commonDivisor_4 l dC dI cy ) k_1211 k_1212 k_101 k_1213 (by decide +kernel) ⟨Nat.le_of_ble_eq_true rfl, Nat.le_of_ble_eq_true rfl⟩ [] [0, 1] rfl rfl rfl (by decide) (by decide) (by decide) rfl hl.1 rfl (Nat.le_of_ble_eq_true rfl) dX10_odds_63 ⟨Nat.le_of_ble_eq_true rfl, Nat.le_of_ble_eq_true rfl⟩ (fun rr u H locs hw hP hD hS => ?_)
                  have hP : va_P (dC, dI) vwCl [(h0, .inr (10, [.ref b0, .ref b1, .ref h1, .ref b2, .ref b3, .ref b4, .ref b5, .ref b6, .ref b7, .int 0])), (h1, .inr (7, [.ref b8, .ref b9, .ref b10, .int 0, .int 0, .int 10, .int 150, .int 2, .int 0, .int 0]))] H := hP
                  have hD : va_D A [(h0, .inr (10, [.ref b0, .ref b1, .ref h1, .ref b2, .ref b3, .ref b4, .ref b5, .ref b6, .ref b7, .int 0])), (h1, .inr (7, [.ref b8, .ref b9, .ref b10, .int 0, .int 0, .int 10, .int 150, .int 2, .int 0, .int 0]))] := hD
                  refine tI (y := 1000000) hw ?_
                  refine lv_istore (lv' := [(5, .int 1000000), (4, .int 1000000), (3, .int 1000000), (0, .ref h0), (1, .int p1), (2, .int p2)]) hx hb dX10_odds_66 hl (by decide) rfl (fun ls hl => ?_)
                  refine lv_iload hx hb dX10_odds_68 (lv_at hl 0 rfl) ?_
                  refine lv_iconst (v := 1) hx hb dX10_odds_70 (by decide) ?_
                  refine lv_icmp_ge (tgt := 76) hx hb dX10_odds_71 (by decide) (fun _ => ?_) (fun c0 => absurd (by decide) c0)
                  refine lv_iload_n hx hb dX10_odds_76 rfl (lv_at hl 5 rfl) ?_
                  refine lv_if_ne (tgt := 84) hx hb dX10_odds_77 (by decide) (fun c12 => ?_) (fun c12 => ?_)
                  · skip
                    refine lv_iload hx hb dX10_odds_84 (lv_at hl 1 rfl) ?_
                    refine lv_iload hx hb dX10_odds_86 (lv_at hl 0 rfl) ?_
                    refine lv_idiv hx hb dX10_odds_88 (by decide) ?_
                    refine tI (y := 1) (by decide) ?_
                    exact ret 1 () _ _ _ _ _ _ rfl (pt_X10_odds_476 p1 p2 c1 c2 c3 c4 c5 c7 c9 c11 c12) (hP.sub [] rfl) (hD.sub [] (by decide) rfl) hS dX10_odds_89 (Nat.le_of_ble_eq_true rfl) (Nat.le_of_ble_eq_true rfl)
                  · skip
                    refine lv_iload_n hx hb dX10_odds_80 rfl (lv_at hl 2 rfl) ?_
                    refine lv_goto (tgt := 86) hx hb dX10_odds_81 (by decide) ?_
                    refine lv_iload hx hb dX10_odds_86 (lv_at hl 0 rfl) ?_
                    refine lv_idiv hx hb dX10_odds_88 (by decide) ?_
                    refine tI (y := 1) (by decide) ?_
                    exact ret 1 () _ _ _ _ _ _ rfl (pt_X10_odds_477 p1 p2 c1 c2 c3 c4 c5 c7 c9 c11 c12) (hP.sub [] rfl) (hD.sub [] (by decide) rfl) hS dX10_odds_89 (Nat.le_of_ble_eq_true rfl) (Nat.le_of_ble_eq_true rfl)
                · skip
                  refine lv_iload_n hx hb dX10_odds_34 rfl (lv_at hl 2 rfl) ?_
                  refine lv_bipush (v := 100) hx hb dX10_odds_35 (by decide) ?_
                  refine lv_aload_n hx hb dX10_odds_37 rfl (lv_at hl 3 rfl) ?_
                  refine va_get (D := (dC, dI)) (ci := 10) (v := .ref h1) (C := RX10) (T := TX10) (N := 10) hx hb hts inB_10 hown hE.1 hP 0 rfl rfl 2 (by decide) (hts _ k_493) (fun _ h9 => h9) rfl dX10_odds_38 ?_
                  refine va_getN (D := (dC, dI)) (ci := 7) (v := .int 0) (C := RX7) (T := TX7) (N := 10) hx hb hts inB_7 hown hE.1 hP 1 rfl rfl 8 (by decide) (va_Nw.use rfl (hE.2 _ k_241)) (fun _ h9 => h9) rfl dX10_odds_41 ?_
                  refine lv_isub hx hb dX10_odds_44 ?_
                  refine tI (y := 100) (by decide) ?_
                  refine lv_imul hx hb dX10_odds_45 ?_
                  refine tI (y := 100000000) (by decide) ?_
                  refine lv_istore_n (lv' := [(3, .int 100000000), (5, .int 3), (4, .int 1000000), (0, .ref h0), (1, .int p1), (2, .int p2)]) hx hb dX10_odds_46 rfl hl (by decide) rfl (fun ls hl => ?_)
                  refine lv_iload hx hb dX10_odds_47 (lv_at hl 2 rfl) ?_
                  refine lv_bipush (v := 100) hx hb dX10_odds_49 (by decide) ?_
                  refine lv_imul hx hb dX10_odds_51 ?_
                  refine tI (y := 100000000) (by decide) ?_
                  refine lv_istore (lv' := [(4, .int 100000000), (3, .int 100000000), (5, .int 3), (0, .ref h0), (1, .int p1), (2, .int p2)]) hx hb dX10_odds_52 hl (by decide) rfl (fun ls hl => ?_)
                  refine lv_iinc (v := 4) (lv' := [(5, .int 4), (4, .int 100000000), (3, .int 100000000), (0, .ref h0), (1, .int p1), (2, .int p2)]) hx hb dX10_odds_54 hl (k := 2) rfl (by decide) (by decide) rfl (fun ls hl => ?_)
                  refine lv_goto (tgt := 28) hx hb dX10_odds_57 (by decide) ?_
                  refine lv_iload hx hb dX10_odds_28 (lv_at hl 0 rfl) ?_
                  refine lv_iload_n hx hb dX10_odds_30 rfl (lv_at hl 4 rfl) ?_
                  refine lv_icmp_ge (tgt := 60) hx hb dX10_odds_31 (by decide) (fun _ => ?_) (fun c0 => absurd (po_X10_odds_478 p1 c1 c2 c5 c7 c9 c11) c0)
                  refine lv_iload hx hb dX10_odds_60 (lv_at hl 1 rfl) ?_
                  refine lv_iload_n hx hb dX10_odds_62 rfl (lv_at hl 2 rfl) ?_
                  refine caSi (n := 2) (wr := [(h0, .inr (10, [.ref b0, .ref b1, .ref h1, .ref b2, .ref b3, .ref b4, .ref b5, .ref b6, .ref b7, .int 0])), (h1, .inr (7, [.ref b8, .ref b9, .ref b10, .int 0, .int 0, .int 10, .int 150, .int 2, .int 0, .int 0]))]) (rest := []) hx hb hml hown hts hE hP hD hS hA (cnX10_commonDivisor_5 l dC dI cy ) k_1211 k_1212 k_101 k_1213 (by decide +kernel) ⟨Nat.le_of_ble_eq_true rfl, Nat.le_of_ble_eq_true rfl⟩ [] [0, 1] rfl rfl rfl (by decide) (by decide) (by decide) rfl hl.1 rfl (Nat.le_of_ble_eq_true rfl) dX10_odds_63 ⟨Nat.le_of_ble_eq_true rfl, Nat.le_of_ble_eq_true rfl⟩ (fun rr u H locs hw hP hD hS => ?_)
                  have hP : va_P (dC, dI) vwCl [(h0, .inr (10, [.ref b0, .ref b1, .ref h1, .ref b2, .ref b3, .ref b4, .ref b5, .ref b6, .ref b7, .int 0])), (h1, .inr (7, [.ref b8, .ref b9, .ref b10, .int 0, .int 0, .int 10, .int 150, .int 2, .int 0, .int 0]))] H := hP
                  have hD : va_D A [(h0, .inr (10, [.ref b0, .ref b1, .ref h1, .ref b2, .ref b3, .ref b4, .ref b5, .ref b6, .ref b7, .int 0])), (h1, .inr (7, [.ref b8, .ref b9, .ref b10, .int 0, .int 0, .int 10, .int 150, .int 2, .int 0, .int 0]))] := hD
                  refine tI (y := 100000000) hw ?_
                  refine lv_istore (lv' := [(5, .int 100000000), (4, .int 100000000), (3, .int 100000000), (0, .ref h0), (1, .int p1), (2, .int p2)]) hx hb dX10_odds_66 hl (by decide) rfl (fun ls hl => ?_)
                  refine lv_iload hx hb dX10_odds_68 (lv_at hl 0 rfl) ?_
                  refine lv_iconst (v := 1) hx hb dX10_odds_70 (by decide) ?_
                  refine lv_icmp_ge (tgt := 76) hx hb dX10_odds_71 (by decide) (fun _ => ?_) (fun c0 => absurd (by decide) c0)
                  refine lv_iload_n hx hb dX10_odds_76 rfl (lv_at hl 5 rfl) ?_
                  refine lv_if_ne (tgt := 84) hx hb dX10_odds_77 (by decide) (fun c13 => ?_) (fun c13 => ?_)
                  · skip
                    refine lv_iload hx hb dX10_odds_84 (lv_at hl 1 rfl) ?_
                    refine lv_iload hx hb dX10_odds_86 (lv_at hl 0 rfl) ?_
                    refine lv_idiv hx hb dX10_odds_88 (by decide) ?_
                    refine tI (y := 1) (by decide) ?_
                    exact ret 1 () _ _ _ _ _ _ rfl (pt_X10_odds_479 p1 p2 c1 c2 c3 c4 c5 c7 c9 c11 c13) (hP.sub [] rfl) (hD.sub [] (by decide) rfl) hS dX10_odds_89 (Nat.le_of_ble_eq_true rfl) (Nat.le_of_ble_eq_true rfl)
                  · skip
                    refine lv_iload_n hx hb dX10_odds_80 rfl (lv_at hl 2 rfl) ?_
                    refine lv_goto (tgt := 86) hx hb dX10_odds_81 (by decide) ?_
                    refine lv_iload hx hb dX10_odds_86 (lv_at hl 0 rfl) ?_
                    refine lv_idiv hx hb dX10_odds_88 (by decide) ?_
                    refine tI (y := 1) (by decide) ?_
                    exact ret 1 () _ _ _ _ _ _ rfl (pt_X10_odds_480 p1 p2 c1 c2 c3 c4 c5 c7 c9 c11 c13) (hP.sub [] rfl) (hD.sub [] (by decide) rfl) hS dX10_odds_89 (Nat.le_of_ble_eq_true rfl) (Nat.le_of_ble_eq_true rfl)
        · skip
          refine lv_iconst (v := (-1)) hx hb dX10_odds_18 (by decide) ?_
          exact ret (-1) () _ _ _ _ _ _ rfl (pt_X10_odds_481 p1 p2 c1 c2 c3 c4) (hP.sub [] rfl) (hD.sub [] (by decide) rfl) hS dX10_odds_19 (Nat.le_of_ble_eq_true rfl) (Nat.le_of_ble_eq_true rfl)
theorem po_X11_isIn_482 (p0 : Int32) (hv : 0 ≤ p0 ∧ p0 ≤ 4) (hv : 0 ≤ p0 ∧ p0 ≤ 4) : ¬ p0 < 0 := by simp only [fa_lt, fa_le, fa_eq, tl_0, tl_4] at *; omega
theorem po_X11_isIn_483 (p0 : Int32) (hv : 0 ≤ p0 ∧ p0 ≤ 4) (hv : 0 ≤ p0 ∧ p0 ≤ 4) : ¬ 4 < p0 := by simp only [fa_lt, fa_le, fa_eq, tl_0, tl_4] at *; omega
set_option maxHeartbeats 4000000 in
set_option maxRecDepth 100000 in
theorem cnX11_isIn_8 (l : Launch) (dC : Nat → ClassId) (dI : Nat → Nat → Nat) (cy : Nat → ClassId) (p0 : Int32) (hv : 0 ≤ p0 ∧ p0 ≤ 4) : ctI l (dC, dI) cy yX11_isIn cX11_isIn 3 .boolean 1 60 0 0 Unit [.int p0, .int 0, .int 4] [] (fun r _ => r = 1) (fun u => []) := by
  refine ctI_of (by decide) (Nat.le_of_ble_eq_true rfl) (fun p e s m below meth c A ls Q hx hb hml hts hown hE hP hD hA hl ret => ?_)
  have hown : s.vm.findClass RX11 = some m.cls := hown
  have hS : va_S A s.heap s.heap [] := va_S.rf
  have hl : lv_has ls 3 [(0, .int p0), (1, .int 0), (2, .int 4)] := hl
  refine lv_iload_n hx hb dX11_isIn_0 rfl (lv_at hl 0 rfl) ?_
  refine lv_iload_n hx hb dX11_isIn_1 rfl (lv_at hl 1 rfl) ?_
  refine lv_icmp_lt (tgt := 14) hx hb dX11_isIn_2 (by decide) (fun c0 => absurd c0 (po_X11_isIn_482 p0 hv hv)) (fun _ => ?_)
  refine lv_iload_n hx hb dX11_isIn_5 rfl (lv_at hl 0 rfl) ?_
  refine lv_iload_n hx hb dX11_isIn_6 rfl (lv_at hl 2 rfl) ?_
  refine lv_icmp_gt (tgt := 14) hx hb dX11_isIn_7 (by decide) (fun c0 => absurd c0 (po_X11_isIn_483 p0 hv hv)) (fun _ => ?_)
  refine lv_iconst (v := 1) hx hb dX11_isIn_10 (by decide) ?_
  refine lv_goto (tgt := 15) hx hb dX11_isIn_11 (by decide) ?_
  exact ret 1 () _ _ _ _ _ _ rfl rfl (hP.sub [] rfl) (hD.sub [] (by decide) rfl) hS dX11_isIn_15 (Nat.le_of_ble_eq_true rfl) (Nat.le_of_ble_eq_true rfl)
set_option maxHeartbeats 4000000 in
set_option maxRecDepth 100000 in
theorem cnX11_power_2 (l : Launch) (dC : Nat → ClassId) (dI : Nat → Nat → Nat) (cy : Nat → ClassId)  : ctI l (dC, dI) cy yX11_power cX11_power 4 .int 1 60 0 0 Unit [.int 100, .int 0] [] (fun r _ => r = 1) (fun u => []) := by
  refine ctI_of (by decide) (Nat.le_of_ble_eq_true rfl) (fun p e s m below meth c A ls Q hx hb hml hts hown hE hP hD hA hl ret => ?_)
  have hown : s.vm.findClass RX11 = some m.cls := hown
  have hS : va_S A s.heap s.heap [] := va_S.rf
  have hl : lv_has ls 4 [(0, .int 100), (1, .int 0)] := hl
  refine lv_iconst (v := 1) hx hb dX11_power_0 (by decide) ?_
  refine lv_istore_n (lv' := [(2, .int 1), (0, .int 100), (1, .int 0)]) hx hb dX11_power_1 rfl hl (by decide) rfl (fun ls hl => ?_)
  refine lv_iconst (v := 0) hx hb dX11_power_2 (by decide) ?_
  refine lv_istore_n (lv' := [(3, .int 0), (2, .int 1), (0, .int 100), (1, .int 0)]) hx hb dX11_power_3 rfl hl (by decide) rfl (fun ls hl => ?_)
  refine lv_iload_n hx hb dX11_power_4 rfl (lv_at hl 0 rfl) ?_
  refine lv_iload_n hx hb dX11_power_5 rfl (lv_at hl 3 rfl) ?_
  refine lv_icmp_ge (tgt := 19) hx hb dX11_power_6 (by decide) (fun _ => ?_) (fun c0 => absurd (by decide) c0)
  refine lv_iload_n hx hb dX11_power_19 rfl (lv_at hl 1 rfl) ?_
  exact ret 1 () _ _ _ _ _ _ rfl rfl (hP.sub [] rfl) (hD.sub [] (by decide) rfl) hS dX11_power_20 (Nat.le_of_ble_eq_true rfl) (Nat.le_of_ble_eq_true rfl)
set_option maxHeartbeats 4000000 in
set_option maxRecDepth 100000 in
theorem cnX11_divisor_1 (l : Launch) (dC : Nat → ClassId) (dI : Nat → Nat → Nat) (cy : Nat → ClassId)  : ctI l (dC, dI) cy yX11_divisor cX11_divisor 5 .int 1 60 0 0 Unit [.int 1, .int 1] [] (fun r _ => r = 1) (fun u => []) := by
  refine ctI_of (by decide) (Nat.le_of_ble_eq_true rfl) (fun p e s m below meth c A ls Q hx hb hml hts hown hE hP hD hA hl ret => ?_)
  have hown : s.vm.findClass RX11 = some m.cls := hown
  have hS : va_S A s.heap s.heap [] := va_S.rf
  have hl : lv_has ls 5 [(0, .int 1), (1, .int 1)] := hl
  refine lv_iload_n hx hb dX11_divisor_0 rfl (lv_at hl 0 rfl) ?_
  refine lv_istore_n (lv' := [(2, .int 1), (0, .int 1), (1, .int 1)]) hx hb dX11_divisor_1 rfl hl (by decide) rfl (fun ls hl => ?_)
  refine lv_iload_n hx hb dX11_divisor_2 rfl (lv_at hl 2 rfl) ?_
  refine lv_istore_n (lv' := [(3, .int 1), (2, .int 1), (0, .int 1), (1, .int 1)]) hx hb dX11_divisor_3 rfl hl (by decide) rfl (fun ls hl => ?_)
  refine lv_iload_n hx hb dX11_divisor_4 rfl (lv_at hl 0 rfl) ?_
  refine lv_if_le (tgt := 21) hx hb dX11_divisor_5 (by decide) (fun c0 => absurd c0 (by decide)) (fun _ => ?_)
  refine lv_iload_n hx hb dX11_divisor_8 rfl (lv_at hl 1 rfl) ?_
  refine lv_iload_n hx hb dX11_divisor_9 rfl (lv_at hl 0 rfl) ?_
  refine lv_irem hx hb dX11_divisor_10 (by decide) ?_
  refine tI (y := 0) (by decide) ?_
  refine lv_istore (lv' := [(4, .int 0), (3, .int 1), (2, .int 1), (0, .int 1), (1, .int 1)]) hx hb dX11_divisor_11 hl (by decide) rfl (fun ls hl => ?_)
  refine lv_iload_n hx hb dX11_divisor_13 rfl (lv_at hl 1 rfl) ?_
  refine lv_istore_n (lv' := [(2, .int 1), (4, .int 0), (3, .int 1), (0, .int 1), (1, .int 1)]) hx hb dX11_divisor_14 rfl hl (by decide) rfl (fun ls hl => ?_)
  refine lv_iload hx hb dX11_divisor_15 (lv_at hl 1 rfl) ?_
  refine lv_istore_n (lv' := [(3, .int 0), (2, .int 1), (4, .int 0), (0, .int 1), (1, .int 1)]) hx hb dX11_divisor_17 rfl hl (by decide) rfl (fun ls hl => ?_)
  refine lv_goto (tgt := 4) hx hb dX11_divisor_18 (by decide) ?_
  refine lv_iload_n hx hb dX11_divisor_4 rfl (lv_at hl 0 rfl) ?_
  refine lv_if_le (tgt := 21) hx hb dX11_divisor_5 (by decide) (fun _ => ?_) (fun c0 => absurd (by decide) c0)
  refine lv_iload_n hx hb dX11_divisor_21 rfl (lv_at hl 1 rfl) ?_
  exact ret 1 () _ _ _ _ _ _ rfl rfl (hP.sub [] rfl) (hD.sub [] (by decide) rfl) hS dX11_divisor_22 (Nat.le_of_ble_eq_true rfl) (Nat.le_of_ble_eq_true rfl)
set_option maxHeartbeats 4000000 in
set_option maxRecDepth 100000 in
theorem cnX11_power_3 (l : Launch) (dC : Nat → ClassId) (dI : Nat → Nat → Nat) (cy : Nat → ClassId)  : ctI l (dC, dI) cy yX11_power cX11_power 4 .int 1 60 0 0 Unit [.int 100, .int 1] [] (fun r _ => r = 100) (fun u => []) := by
  refine ctI_of (by decide) (Nat.le_of_ble_eq_true rfl) (fun p e s m below meth c A ls Q hx hb hml hts hown hE hP hD hA hl ret => ?_)
  have hown : s.vm.findClass RX11 = some m.cls := hown
  have hS : va_S A s.heap s.heap [] := va_S.rf
  have hl : lv_has ls 4 [(0, .int 100), (1, .int 1)] := hl
  refine lv_iconst (v := 1) hx hb dX11_power_0 (by decide) ?_
  refine lv_istore_n (lv' := [(2, .int 1), (0, .int 100), (1, .int 1)]) hx hb dX11_power_1 rfl hl (by decide) rfl (fun ls hl => ?_)
  refine lv_iconst (v := 0) hx hb dX11_power_2 (by decide) ?_
  refine lv_istore_n (lv' := [(3, .int 0), (2, .int 1), (0, .int 100), (1, .int 1)]) hx hb dX11_power_3 rfl hl (by decide) rfl (fun ls hl => ?_)
  refine lv_iload_n hx hb dX11_power_4 rfl (lv_at hl 0 rfl) ?_
  refine lv_iload_n hx hb dX11_power_5 rfl (lv_at hl 3 rfl) ?_
  refine lv_icmp_ge (tgt := 19) hx hb dX11_power_6 (by decide) (fun c0 => absurd c0 (by decide)) (fun _ => ?_)
  refine lv_iload_n hx hb dX11_power_9 rfl (lv_at hl 1 rfl) ?_
  refine lv_iload_n hx hb dX11_power_10 rfl (lv_at hl 2 rfl) ?_
  refine lv_imul hx hb dX11_power_11 ?_
  refine tI (y := 100) (by decide) ?_
  refine lv_istore_n (lv' := [(2, .int 100), (3, .int 0), (0, .int 100), (1, .int 1)]) hx hb dX11_power_12 rfl hl (by decide) rfl (fun ls hl => ?_)
  refine lv_iinc (v := 1) (lv' := [(3, .int 1), (2, .int 100), (0, .int 100), (1, .int 1)]) hx hb dX11_power_13 hl (k := 1) rfl (by decide) (by decide) rfl (fun ls hl => ?_)
  refine lv_goto (tgt := 4) hx hb dX11_power_16 (by decide) ?_
  refine lv_iload_n hx hb dX11_power_4 rfl (lv_at hl 0 rfl) ?_
  refine lv_iload_n hx hb dX11_power_5 rfl (lv_at hl 3 rfl) ?_
  refine lv_icmp_ge (tgt := 19) hx hb dX11_power_6 (by decide) (fun _ => ?_) (fun c0 => absurd (by decide) c0)
  refine lv_iload_n hx hb dX11_power_19 rfl (lv_at hl 1 rfl) ?_
  exact ret 100 () _ _ _ _ _ _ rfl rfl (hP.sub [] rfl) (hD.sub [] (by decide) rfl) hS dX11_power_20 (Nat.le_of_ble_eq_true rfl) (Nat.le_of_ble_eq_true rfl)
set_option maxHeartbeats 4000000 in
set_option maxRecDepth 100000 in
theorem cnX11_divisor_2 (l : Launch) (dC : Nat → ClassId) (dI : Nat → Nat → Nat) (cy : Nat → ClassId)  : ctI l (dC, dI) cy yX11_divisor cX11_divisor 5 .int 1 60 0 0 Unit [.int 100, .int 100] [] (fun r _ => r = 100) (fun u => []) := by
  refine ctI_of (by decide) (Nat.le_of_ble_eq_true rfl) (fun p e s m below meth c A ls Q hx hb hml hts hown hE hP hD hA hl ret => ?_)
  have hown : s.vm.findClass RX11 = some m.cls := hown
  have hS : va_S A s.heap s.heap [] := va_S.rf
  have hl : lv_has ls 5 [(0, .int 100), (1, .int 100)] := hl
  refine lv_iload_n hx hb dX11_divisor_0 rfl (lv_at hl 0 rfl) ?_
  refine lv_istore_n (lv' := [(2, .int 100), (0, .int 100), (1, .int 100)]) hx hb dX11_divisor_1 rfl hl (by decide) rfl (fun ls hl => ?_)
  refine lv_iload_n hx hb dX11_divisor_2 rfl (lv_at hl 2 rfl) ?_
  refine lv_istore_n (lv' := [(3, .int 100), (2, .int 100), (0, .int 100), (1, .int 100)]) hx hb dX11_divisor_3 rfl hl (by decide) rfl (fun ls hl => ?_)
  refine lv_iload_n hx hb dX11_divisor_4 rfl (lv_at hl 0 rfl) ?_
  refine lv_if_le (tgt := 21) hx hb dX11_divisor_5 (by decide) (fun c0 => absurd c0 (by decide)) (fun _ => ?_)
  refine lv_iload_n hx hb dX11_divisor_8 rfl (lv_at hl 1 rfl) ?_
  refine lv_iload_n hx hb dX11_divisor_9 rfl (lv_at hl 0 rfl) ?_
  refine lv_irem hx hb dX11_divisor_10 (by decide) ?_
  refine tI (y := 0) (by decide) ?_
  refine lv_istore (lv' := [(4, .int 0), (3, .int 100), (2, .int 100), (0, .int 100), (1, .int 100)]) hx hb dX11_divisor_11 hl (by decide) rfl (fun ls hl => ?_)
  refine lv_iload_n hx hb dX11_divisor_13 rfl (lv_at hl 1 rfl) ?_
  refine lv_istore_n (lv' := [(2, .int 100), (4, .int 0), (3, .int 100), (0, .int 100), (1, .int 100)]) hx hb dX11_divisor_14 rfl hl (by decide) rfl (fun ls hl => ?_)
  refine lv_iload hx hb dX11_divisor_15 (lv_at hl 1 rfl) ?_
  refine lv_istore_n (lv' := [(3, .int 0), (2, .int 100), (4, .int 0), (0, .int 100), (1, .int 100)]) hx hb dX11_divisor_17 rfl hl (by decide) rfl (fun ls hl => ?_)
  refine lv_goto (tgt := 4) hx hb dX11_divisor_18 (by decide) ?_
  refine lv_iload_n hx hb dX11_divisor_4 rfl (lv_at hl 0 rfl) ?_
  refine lv_if_le (tgt := 21) hx hb dX11_divisor_5 (by decide) (fun _ => ?_) (fun c0 => absurd (by decide) c0)
  refine lv_iload_n hx hb dX11_divisor_21 rfl (lv_at hl 1 rfl) ?_
  exact ret 100 () _ _ _ _ _ _ rfl rfl (hP.sub [] rfl) (hD.sub [] (by decide) rfl) hS dX11_divisor_22 (Nat.le_of_ble_eq_true rfl) (Nat.le_of_ble_eq_true rfl)
set_option maxHeartbeats 4000000 in
set_option maxRecDepth 100000 in
theorem cnX11_power_4 (l : Launch) (dC : Nat → ClassId) (dI : Nat → Nat → Nat) (cy : Nat → ClassId)  : ctI l (dC, dI) cy yX11_power cX11_power 4 .int 1 60 0 0 Unit [.int 100, .int 2] [] (fun r _ => r = 10000) (fun u => []) := by
  refine ctI_of (by decide) (Nat.le_of_ble_eq_true rfl) (fun p e s m below meth c A ls Q hx hb hml hts hown hE hP hD hA hl ret => ?_)
  have hown : s.vm.findClass RX11 = some m.cls := hown
  have hS : va_S A s.heap s.heap [] := va_S.rf
  have hl : lv_has ls 4 [(0, .int 100), (1, .int 2)] := hl
  refine lv_iconst (v := 1) hx hb dX11_power_0 (by decide) ?_
  refine lv_istore_n (lv' := [(2, .int 1), (0, .int 100), (1, .int 2)]) hx hb dX11_power_1 rfl hl (by decide) rfl (fun ls hl => ?_)
  refine lv_iconst (v := 0) hx hb dX11_power_2 (by decide) ?_
  refine lv_istore_n (lv' := [(3, .int 0), (2, .int 1), (0, .int 100), (1, .int 2)]) hx hb dX11_power_3 rfl hl (by decide) rfl (fun ls hl => ?_)
  refine lv_iload_n hx hb dX11_power_4 rfl (lv_at hl 0 rfl) ?_
  refine lv_iload_n hx hb dX11_power_5 rfl (lv_at hl 3 rfl) ?_
  refine lv_icmp_ge (tgt := 19) hx hb dX11_power_6 (by decide) (fun c0 => absurd c0 (by decide)) (fun _ => ?_)
  refine lv_iload_n hx hb dX11_power_9 rfl (lv_at hl 1 rfl) ?_
  refine lv_iload_n hx hb dX11_power_10 rfl (lv_at hl 2 rfl) ?_
  refine lv_imul hx hb dX11_power_11 ?_
  refine tI (y := 100) (by decide) ?_
  refine lv_istore_n (lv' := [(2, .int 100), (3, .int 0), (0, .int 100), (1, .int 2)]) hx hb dX11_power_12 rfl hl (by decide) rfl (fun ls hl => ?_)
  refine lv_iinc (v := 1) (lv' := [(3, .int 1), (2, .int 100), (0, .int 100), (1, .int 2)]) hx hb dX11_power_13 hl (k := 1) rfl (by decide) (by decide) rfl (fun ls hl => ?_)
  refine lv_goto (tgt := 4) hx hb dX11_power_16 (by decide) ?_
  refine lv_iload_n hx hb dX11_power_4 rfl (lv_at hl 0 rfl) ?_
  refine lv_iload_n hx hb dX11_power_5 rfl (lv_at hl 3 rfl) ?_
  refine lv_icmp_ge (tgt := 19) hx hb dX11_power_6 (by decide) (fun c0 => absurd c0 (by decide)) (fun _ => ?_)
  refine lv_iload_n hx hb dX11_power_9 rfl (lv_at hl 1 rfl) ?_
  refine lv_iload_n hx hb dX11_power_10 rfl (lv_at hl 2 rfl) ?_
  refine lv_imul hx hb dX11_power_11 ?_
  refine tI (y := 10000) (by decide) ?_
  refine lv_istore_n (lv' := [(2, .int 10000), (3, .int 1), (0, .int 100), (1, .int 2)]) hx hb dX11_power_12 rfl hl (by decide) rfl (fun ls hl => ?_)
  refine lv_iinc (v := 2) (lv' := [(3, .int 2), (2, .int 10000), (0, .int 100), (1, .int 2)]) hx hb dX11_power_13 hl (k := 1) rfl (by decide) (by decide) rfl (fun ls hl => ?_)
  refine lv_goto (tgt := 4) hx hb dX11_power_16 (by decide) ?_
  refine lv_iload_n hx hb dX11_power_4 rfl (lv_at hl 0 rfl) ?_
  refine lv_iload_n hx hb dX11_power_5 rfl (lv_at hl 3 rfl) ?_
  refine lv_icmp_ge (tgt := 19) hx hb dX11_power_6 (by decide) (fun _ => ?_) (fun c0 => absurd (by decide) c0)
  refine lv_iload_n hx hb dX11_power_19 rfl (lv_at hl 1 rfl) ?_
  exact ret 10000 () _ _ _ _ _ _ rfl rfl (hP.sub [] rfl) (hD.sub [] (by decide) rfl) hS dX11_power_20 (Nat.le_of_ble_eq_true rfl) (Nat.le_of_ble_eq_true rfl)
set_option maxHeartbeats 4000000 in
set_option maxRecDepth 100000 in
theorem cnX11_divisor_3 (l : Launch) (dC : Nat → ClassId) (dI : Nat → Nat → Nat) (cy : Nat → ClassId)  : ctI l (dC, dI) cy yX11_divisor cX11_divisor 5 .int 1 60 0 0 Unit [.int 10000, .int 10000] [] (fun r _ => r = 10000) (fun u => []) := by
  refine ctI_of (by decide) (Nat.le_of_ble_eq_true rfl) (fun p e s m below meth c A ls Q hx hb hml hts hown hE hP hD hA hl ret => ?_)
  have hown : s.vm.findClass RX11 = some m.cls := hown
  have hS : va_S A s.heap s.heap [] := va_S.rf
  have hl : lv_has ls 5 [(0, .int 10000), (1, .int 10000)] := hl
  refine lv_iload_n hx hb dX11_divisor_0 rfl (lv_at hl 0 rfl) ?_
  refine lv_istore_n (lv' := [(2, .int 10000), (0, .int 10000), (1, .int 10000)]) hx hb dX11_divisor_1 rfl hl (by decide) rfl (fun ls hl => ?_)
  refine lv_iload_n hx hb dX11_divisor_2 rfl (lv_at hl 2 rfl) ?_
  refine lv_istore_n (lv' := [(3, .int 10000), (2, .int 10000), (0, .int 10000), (1, .int 10000)]) hx hb dX11_divisor_3 rfl hl (by decide) rfl (fun ls hl => ?_)
  refine lv_iload_n hx hb dX11_divisor_4 rfl (lv_at hl 0 rfl) ?_
  refine lv_if_le (tgt := 21) hx hb dX11_divisor_5 (by decide) (fun c0 => absurd c0 (by decide)) (fun _ => ?_)
  refine lv_iload_n hx hb dX11_divisor_8 rfl (lv_at hl 1 rfl) ?_
  refine lv_iload_n hx hb dX11_divisor_9 rfl (lv_at hl 0 rfl) ?_
  refine lv_irem hx hb dX11_divisor_10 (by decide) ?_
  refine tI (y := 0) (by decide) ?_
  refine lv_istore (lv' := [(4, .int 0), (3, .int 10000), (2, .int 10000), (0, .int 10000), (1, .int 10000)]) hx hb dX11_divisor_11 hl (by decide) rfl (fun ls hl => ?_)
  refine lv_iload_n hx hb dX11_divisor_13 rfl (lv_at hl 1 rfl) ?_
  refine lv_istore_n (lv' := [(2, .int 10000), (4, .int 0), (3, .int 10000), (0, .int 10000), (1, .int 10000)]) hx hb dX11_divisor_14 rfl hl (by decide) rfl (fun ls hl => ?_)
  refine lv_iload hx hb dX11_divisor_15 (lv_at hl 1 rfl) ?_
  refine lv_istore_n (lv' := [(3, .int 0), (2, .int 10000), (4, .int 0), (0, .int 10000), (1, .int 10000)]) hx hb dX11_divisor_17 rfl hl (by decide) rfl (fun ls hl => ?_)
  refine lv_goto (tgt := 4) hx hb dX11_divisor_18 (by decide) ?_
  refine lv_iload_n hx hb dX11_divisor_4 rfl (lv_at hl 0 rfl) ?_
  refine lv_if_le (tgt := 21) hx hb dX11_divisor_5 (by decide) (fun _ => ?_) (fun c0 => absurd (by decide) c0)
  refine lv_iload_n hx hb dX11_divisor_21 rfl (lv_at hl 1 rfl) ?_
  exact ret 10000 () _ _ _ _ _ _ rfl rfl (hP.sub [] rfl) (hD.sub [] (by decide) rfl) hS dX11_divisor_22 (Nat.le_of_ble_eq_true rfl) (Nat.le_of_ble_eq_true rfl)
set_option maxHeartbeats 4000000 in
set_option maxRecDepth 100000 in
theorem cnX11_power_5 (l : Launch) (dC : Nat → ClassId) (dI : Nat → Nat → Nat) (cy : Nat → ClassId)  : ctI l (dC, dI) cy yX11_power cX11_power 4 .int 1 60 0 0 Unit [.int 100, .int 3] [] (fun r _ => r = 1000000) (fun u => []) := by
  refine ctI_of (by decide) (Nat.le_of_ble_eq_true rfl) (fun p e s m below meth c A ls Q hx hb hml hts hown hE hP hD hA hl ret => ?_)
  have hown : s.vm.findClass RX11 = some m.cls := hown
  have hS : va_S A s.heap s.heap [] := va_S.rf
  have hl : lv_has ls 4 [(0, .int 100), (1, .int 3)] := hl
  refine lv_iconst (v := 1) hx hb dX11_power_0 (by decide) ?_
  refine lv_istore_n (lv' := [(2, .int 1), (0, .int 100), (1, .int 3)]) hx hb dX11_power_1 rfl hl (by decide) rfl (fun ls hl => ?_)
  refine lv_iconst (v := 0) hx hb dX11_power_2 (by decide) ?_
  refine lv_istore_n (lv' := [(3, .int 0), (2, .int 1), (0, .int 100), (1, .int 3)]) hx hb dX11_power_3 rfl hl (by decide) rfl (fun ls hl => ?_)
  refine lv_iload_n hx hb dX11_power_4 rfl (lv_at hl 0 rfl) ?_
  refine lv_iload_n hx hb dX11_power_5 rfl (lv_at hl 3 rfl) ?_
  refine lv_icmp_ge (tgt := 19) hx hb dX11_power_6 (by decide) (fun c0 => absurd c0 (by decide)) (fun _ => ?_)
  refine lv_iload_n hx hb dX11_power_9 rfl (lv_at hl 1 rfl) ?_
  refine lv_iload_n hx hb dX11_power_10 rfl (lv_at hl 2 rfl) ?_
  refine lv_imul hx hb dX11_power_11 ?_
  refine tI (y := 100) (by decide) ?_
  refine lv_istore_n (lv' := [(2, .int 100), (3, .int 0), (0, .int 100), (1, .int 3)]) hx hb dX11_power_12 rfl hl (by decide) rfl (fun ls hl => ?_)
  refine lv_iinc (v := 1) (lv' := [(3, .int 1), (2, .int 100), (0, .int 100), (1, .int 3)]) hx hb dX11_power_13 hl (k := 1) rfl (by decide) (by decide) rfl (fun ls hl => ?_)
  refine lv_goto (tgt := 4) hx hb dX11_power_16 (by decide) ?_
  refine lv_iload_n hx hb dX11_power_4 rfl (lv_at hl 0 rfl) ?_
  refine lv_iload_n hx hb dX11_power_5 rfl (lv_at hl 3 rfl) ?_
  refine lv_icmp_ge (tgt := 19) hx hb dX11_power_6 (by decide) (fun c0 => absurd c0 (by decide)) (fun _ => ?_)
  refine lv_iload_n hx hb dX11_power_9 rfl (lv_at hl 1 rfl) ?_
  refine lv_iload_n hx hb dX11_power_10 rfl (lv_at hl 2 rfl) ?_
  refine lv_imul hx hb dX11_power_11 ?_
  refine tI (y := 10000) (by decide) ?_
  refine lv_istore_n (lv' := [(2, .int 10000), (3, .int 1), (0, .int 100), (1, .int 3)]) hx hb dX11_power_12 rfl hl (by decide) rfl (fun ls hl => ?_)
  refine lv_iinc (v := 2) (lv' := [(3, .int 2), (2, .int 10000), (0, .int 100), (1, .int 3)]) hx hb dX11_power_13 hl (k := 1) rfl (by decide) (by decide) rfl (fun ls hl => ?_)
  refine lv_goto (tgt := 4) hx hb dX11_power_16 (by decide) ?_
  refine lv_iload_n hx hb dX11_power_4 rfl (lv_at hl 0 rfl) ?_
  refine lv_iload_n hx hb dX11_power_5 rfl (lv_at hl 3 rfl) ?_
  refine lv_icmp_ge (tgt := 19) hx hb dX11_power_6 (by decide) (fun c0 => absurd c0 (by decide)) (fun _ => ?_)
  refine lv_iload_n hx hb dX11_power_9 rfl (lv_at hl 1 rfl) ?_
  refine lv_iload_n hx hb dX11_power_10 rfl (lv_at hl 2 rfl) ?_
  refine lv_imul hx hb dX11_power_11 ?_
  refine tI (y := 1000000) (by decide) ?_
  refine lv_istore_n (lv' := [(2, .int 1000000), (3, .int 2), (0, .int 100), (1, .int 3)]) hx hb dX11_power_12 rfl hl (by decide) rfl (fun ls hl => ?_)
  refine lv_iinc (v := 3) (lv' := [(3, .int 3), (2, .int 1000000), (0, .int 100), (1, .int 3)]) hx hb dX11_power_13 hl (k := 1) rfl (by decide) (by decide) rfl (fun ls hl => ?_)
  refine lv_goto (tgt := 4) hx hb dX11_power_16 (by decide) ?_
  refine lv_iload_n hx hb dX11_power_4 rfl (lv_at hl 0 rfl) ?_
  refine lv_iload_n hx hb dX11_power_5 rfl (lv_at hl 3 rfl) ?_
  refine lv_icmp_ge (tgt := 19) hx hb dX11_power_6 (by decide) (fun _ => ?_) (fun c0 => absurd (by decide) c0)
  refine lv_iload_n hx hb dX11_power_19 rfl (lv_at hl 1 rfl) ?_
  exact ret 1000000 () _ _ _ _ _ _ rfl rfl (hP.sub [] rfl) (hD.sub [] (by decide) rfl) hS dX11_power_20 (Nat.le_of_ble_eq_true rfl) (Nat.le_of_ble_eq_true rfl)
set_option maxHeartbeats 4000000 in
set_option maxRecDepth 100000 in
theorem cnX11_divisor_4 (l : Launch) (dC : Nat → ClassId) (dI : Nat → Nat → Nat) (cy : Nat → ClassId)  : ctI l (dC, dI) cy yX11_divisor cX11_divisor 5 .int 1 60 0 0 Unit [.int 1000000, .int 1000000] [] (fun r _ => r = 1000000) (fun u => []) := by
  refine ctI_of (by decide) (Nat.le_of_ble_eq_true rfl) (fun p e s m below meth c A ls Q hx hb hml hts hown hE hP hD hA hl ret => ?_)
  have hown : s.vm.findClass RX11 = some m.cls := hown
  have hS : va_S A s.heap s.heap [] := va_S.rf
  have hl : lv_has ls 5 [(0, .int 1000000), (1, .int 1000000)] := hl
  refine lv_iload_n hx hb dX11_divisor_0 rfl (lv_at hl 0 rfl) ?_
  refine lv_istore_n (lv' := [(2, .int 1000000), (0, .int 1000000), (1, .int 1000000)]) hx hb dX11_divisor_1 rfl hl (by decide) rfl (fun ls hl => ?_)
  refine lv_iload_n hx hb dX11_divisor_2 rfl (lv_at hl 2 rfl) ?_
  refine lv_istore_n (lv' := [(3, .int 1000000), (2, .int 1000000), (0, .int 1000000), (1, .int 1000000)]) hx hb dX11_divisor_3 rfl hl (by decide) rfl (fun ls hl => ?_)
  refine lv_iload_n hx hb dX11_divisor_4 rfl (lv_at hl 0 rfl) ?_
  refine lv_if_le (tgt := 21) hx hb dX11_divisor_5 (by decide) (fun c0 => absurd c0 (by decide)) (fun _ => ?_)
  refine lv_iload_n hx hb dX11_divisor_8 rfl (lv_at hl 1 rfl) ?_
  refine lv_iload_n hx hb dX11_divisor_9 rfl (lv_at hl 0 rfl) ?_
  refine lv_irem hx hb dX11_divisor_10 (by decide) ?_
  refine tI (y := 0) (by decide) ?_
  refine lv_istore (lv' := [(4, .int 0), (3, .int 1000000), (2, .int 1000000), (0, .int 1000000), (1, .int 1000000)]) hx hb dX11_divisor_11 hl (by decide) rfl (fun ls hl => ?_)
  refine lv_iload_n hx hb dX11_divisor_13 rfl (lv_at hl 1 rfl) ?_
  refine lv_istore_n (lv' := [(2, .int 1000000), (4, .int 0), (3, .int 1000000), (0, .int 1000000), (1, .int 1000000)]) hx hb dX11_divisor_14 rfl hl (by decide) rfl (fun ls hl => ?_)
  refine lv_iload hx hb dX11_divisor_15 (lv_at hl 1 rfl) ?_
  refine lv_istore_n (lv' := [(3, .int 0), (2, .int 1000000), (4, .int 0), (0, .int 1000000), (1, .int 1000000)]) hx hb dX11_divisor_17 rfl hl (by decide) rfl (fun ls hl => ?_)
  refine lv_goto (tgt := 4) hx hb dX11_divisor_18 (by decide) ?_
  refine lv_iload_n hx hb dX11_divisor_4 rfl (lv_at hl 0 rfl) ?_
  refine lv_if_le (tgt := 21) hx hb dX11_divisor_5 (by decide) (fun _ => ?_) (fun c0 => absurd (by decide) c0)
  refine lv_iload_n hx hb dX11_divisor_21 rfl (lv_at hl 1 rfl) ?_
  exact ret 1000000 () _ _ _ _ _ _ rfl rfl (hP.sub [] rfl) (hD.sub [] (by decide) rfl) hS dX11_divisor_22 (Nat.le_of_ble_eq_true rfl) (Nat.le_of_ble_eq_true rfl)
set_option maxHeartbeats 4000000 in
set_option maxRecDepth 100000 in
theorem cnX11_power_6 (l : Launch) (dC : Nat → ClassId) (dI : Nat → Nat → Nat) (cy : Nat → ClassId)  : ctI l (dC, dI) cy yX11_power cX11_power 4 .int 1 60 0 0 Unit [.int 100, .int 4] [] (fun r _ => r = 100000000) (fun u => []) := by
  refine ctI_of (by decide) (Nat.le_of_ble_eq_true rfl) (fun p e s m below meth c A ls Q hx hb hml hts hown hE hP hD hA hl ret => ?_)
  have hown : s.vm.findClass RX11 = some m.cls := hown
  have hS : va_S A s.heap s.heap [] := va_S.rf
  have hl : lv_has ls 4 [(0, .int 100), (1, .int 4)] := hl
  refine lv_iconst (v := 1) hx hb dX11_power_0 (by decide) ?_
  refine lv_istore_n (lv' := [(2, .int 1), (0, .int 100), (1, .int 4)]) hx hb dX11_power_1 rfl hl (by decide) rfl (fun ls hl => ?_)
  refine lv_iconst (v := 0) hx hb dX11_power_2 (by decide) ?_
  refine lv_istore_n (lv' := [(3, .int 0), (2, .int 1), (0, .int 100), (1, .int 4)]) hx hb dX11_power_3 rfl hl (by decide) rfl (fun ls hl => ?_)
  refine lv_iload_n hx hb dX11_power_4 rfl (lv_at hl 0 rfl) ?_
  refine lv_iload_n hx hb dX11_power_5 rfl (lv_at hl 3 rfl) ?_
  refine lv_icmp_ge (tgt := 19) hx hb dX11_power_6 (by decide) (fun c0 => absurd c0 (by decide)) (fun _ => ?_)
  refine lv_iload_n hx hb dX11_power_9 rfl (lv_at hl 1 rfl) ?_
  refine lv_iload_n hx hb dX11_power_10 rfl (lv_at hl 2 rfl) ?_
  refine lv_imul hx hb dX11_power_11 ?_
  refine tI (y := 100) (by decide) ?_
  refine lv_istore_n (lv' := [(2, .int 100), (3, .int 0), (0, .int 100), (1, .int 4)]) hx hb dX11_power_12 rfl hl (by decide) rfl (fun ls hl => ?_)
  refine lv_iinc (v := 1) (lv' := [(3, .int 1), (2, .int 100), (0, .int 100), (1, .int 4)]) hx hb dX11_power_13 hl (k := 1) rfl (by decide) (by decide) rfl (fun ls hl => ?_)
  refine lv_goto (tgt := 4) hx hb dX11_power_16 (by decide) ?_
  refine lv_iload_n hx hb dX11_power_4 rfl (lv_at hl 0 rfl) ?_
  refine lv_iload_n hx hb dX11_power_5 rfl (lv_at hl 3 rfl) ?_
  refine lv_icmp_ge (tgt := 19) hx hb dX11_power_6 (by decide) (fun c0 => absurd c0 (by decide)) (fun _ => ?_)
  refine lv_iload_n hx hb dX11_power_9 rfl (lv_at hl 1 rfl) ?_
  refine lv_iload_n hx hb dX11_power_10 rfl (lv_at hl 2 rfl) ?_
  refine lv_imul hx hb dX11_power_11 ?_
  refine tI (y := 10000) (by decide) ?_
  refine lv_istore_n (lv' := [(2, .int 10000), (3, .int 1), (0, .int 100), (1, .int 4)]) hx hb dX11_power_12 rfl hl (by decide) rfl (fun ls hl => ?_)
  refine lv_iinc (v := 2) (lv' := [(3, .int 2), (2, .int 10000), (0, .int 100), (1, .int 4)]) hx hb dX11_power_13 hl (k := 1) rfl (by decide) (by decide) rfl (fun ls hl => ?_)
  refine lv_goto (tgt := 4) hx hb dX11_power_16 (by decide) ?_
  refine lv_iload_n hx hb dX11_power_4 rfl (lv_at hl 0 rfl) ?_
  refine lv_iload_n hx hb dX11_power_5 rfl (lv_at hl 3 rfl) ?_
  refine lv_icmp_ge (tgt := 19) hx hb dX11_power_6 (by decide) (fun c0 => absurd c0 (by decide)) (fun _ => ?_)
  refine lv_iload_n hx hb dX11_power_9 rfl (lv_at hl 1 rfl) ?_
  refine lv_iload_n hx hb dX11_power_10 rfl (lv_at hl 2 rfl) ?_
  refine lv_imul hx hb dX11_power_11 ?_
  refine tI (y := 1000000) (by decide) ?_
  refine lv_istore_n (lv' := [(2, .int 1000000), (3, .int 2), (0, .int 100), (1, .int 4)]) hx hb dX11_power_12 rfl hl (by decide) rfl (fun ls hl => ?_)
  refine lv_iinc (v := 3) (lv' := [(3, .int 3), (2, .int 1000000), (0, .int 100), (1, .int 4)]) hx hb dX11_power_13 hl (k := 1) rfl (by decide) (by decide) rfl (fun ls hl => ?_)
  refine lv_goto (tgt := 4) hx hb dX11_power_16 (by decide) ?_
  refine lv_iload_n hx hb dX11_power_4 rfl (lv_at hl 0 rfl) ?_
  refine lv_iload_n hx hb dX11_power_5 rfl (lv_at hl 3 rfl) ?_
  refine lv_icmp_ge (tgt := 19) hx hb dX11_power_6 (by decide) (fun c0 => absurd c0 (by decide)) (fun _ => ?_)
  refine lv_iload_n hx hb dX11_power_9 rfl (lv_at hl 1 rfl) ?_
  refine lv_iload_n hx hb dX11_power_10 rfl (lv_at hl 2 rfl) ?_
  refine lv_imul hx hb dX11_power_11 ?_
  refine tI (y := 100000000) (by decide) ?_
  refine lv_istore_n (lv' := [(2, .int 100000000), (3, .int 3), (0, .int 100), (1, .int 4)]) hx hb dX11_power_12 rfl hl (by decide) rfl (fun ls hl => ?_)
  refine lv_iinc (v := 4) (lv' := [(3, .int 4), (2, .int 100000000), (0, .int 100), (1, .int 4)]) hx hb dX11_power_13 hl (k := 1) rfl (by decide) (by decide) rfl (fun ls hl => ?_)
  refine lv_goto (tgt := 4) hx hb dX11_power_16 (by decide) ?_
  refine lv_iload_n hx hb dX11_power_4 rfl (lv_at hl 0 rfl) ?_
  refine lv_iload_n hx hb dX11_power_5 rfl (lv_at hl 3 rfl) ?_
  refine lv_icmp_ge (tgt := 19) hx hb dX11_power_6 (by decide) (fun _ => ?_) (fun c0 => absurd (by decide) c0)
  refine lv_iload_n hx hb dX11_power_19 rfl (lv_at hl 1 rfl) ?_
  exact ret 100000000 () _ _ _ _ _ _ rfl rfl (hP.sub [] rfl) (hD.sub [] (by decide) rfl) hS dX11_power_20 (Nat.le_of_ble_eq_true rfl) (Nat.le_of_ble_eq_true rfl)
set_option maxHeartbeats 4000000 in
set_option maxRecDepth 100000 in
theorem cnX11_divisor_5 (l : Launch) (dC : Nat → ClassId) (dI : Nat → Nat → Nat) (cy : Nat → ClassId)  : ctI l (dC, dI) cy yX11_divisor cX11_divisor 5 .int 1 60 0 0 Unit [.int 100000000, .int 100000000] [] (fun r _ => r = 100000000) (fun u => []) := by
  refine ctI_of (by decide) (Nat.le_of_ble_eq_true rfl) (fun p e s m below meth c A ls Q hx hb hml hts hown hE hP hD hA hl ret => ?_)
  have hown : s.vm.findClass RX11 = some m.cls := hown
  have hS : va_S A s.heap s.heap [] := va_S.rf
  have hl : lv_has ls 5 [(0, .int 100000000), (1, .int 100000000)] := hl
  refine lv_iload_n hx hb dX11_divisor_0 rfl (lv_at hl 0 rfl) ?_
  refine lv_istore_n (lv' := [(2, .int 100000000), (0, .int 100000000), (1, .int 100000000)]) hx hb dX11_divisor_1 rfl hl (by decide) rfl (fun ls hl => ?_)
  refine lv_iload_n hx hb dX11_divisor_2 rfl (lv_at hl 2 rfl) ?_
  refine lv_istore_n (lv' := [(3, .int 100000000), (2, .int 100000000), (0, .int 100000000), (1, .int 100000000)]) hx hb dX11_divisor_3 rfl hl (by decide) rfl (fun ls hl => ?_)
  refine lv_iload_n hx hb dX11_divisor_4 rfl (lv_at hl 0 rfl) ?_
  refine lv_if_le (tgt := 21) hx hb dX11_divisor_5 (by decide) (fun c0 => absurd c0 (by decide)) (fun _ => ?_)
  refine lv_iload_n hx hb dX11_divisor_8 rfl (lv_at hl 1 rfl) ?_
  refine lv_iload_n hx hb dX11_divisor_9 rfl (lv_at hl 0 rfl) ?_
  refine lv_irem hx hb dX11_divisor_10 (by decide) ?_
  refine tI (y := 0) (by decide) ?_
  refine lv_istore (lv' := [(4, .int 0), (3, .int 100000000), (2, .int 100000000), (0, .int 100000000), (1, .int 100000000)]) hx hb dX11_divisor_11 hl (by decide) rfl (fun ls hl => ?_)
  refine lv_iload_n hx hb dX11_divisor_13 rfl (lv_at hl 1 rfl) ?_
  refine lv_istore_n (lv' := [(2, .int 100000000), (4, .int 0), (3, .int 100000000), (0, .int 100000000), (1, .int 100000000)]) hx hb dX11_divisor_14 rfl hl (by decide) rfl (fun ls hl => ?_)
  refine lv_iload hx hb dX11_divisor_15 (lv_at hl 1 rfl) ?_
  refine lv_istore_n (lv' := [(3, .int 0), (2, .int 100000000), (4, .int 0), (0, .int 100000000), (1, .int 100000000)]) hx hb dX11_divisor_17 rfl hl (by decide) rfl (fun ls hl => ?_)
  refine lv_goto (tgt := 4) hx hb dX11_divisor_18 (by decide) ?_
  refine lv_iload_n hx hb dX11_divisor_4 rfl (lv_at hl 0 rfl) ?_
  refine lv_if_le (tgt := 21) hx hb dX11_divisor_5 (by decide) (fun _ => ?_) (fun c0 => absurd (by decide) c0)
  refine lv_iload_n hx hb dX11_divisor_21 rfl (lv_at hl 1 rfl) ?_
  exact ret 100000000 () _ _ _ _ _ _ rfl rfl (hP.sub [] rfl) (hD.sub [] (by decide) rfl) hS dX11_divisor_22 (Nat.le_of_ble_eq_true rfl) (Nat.le_of_ble_eq_true rfl)
theorem po_X11_isIn_484 (p0 : Int32) (hv : ¬ (0 ≤ p0 ∧ p0 ≤ 4)) (c1 : ¬ p0 < 0) : 4 < p0 := by simp only [fa_lt, fa_le, fa_eq, tl_0, tl_4] at *; omega
set_option maxHeartbeats 4000000 in
set_option maxRecDepth 100000 in
theorem cnX11_isIn_9 (l : Launch) (dC : Nat → ClassId) (dI : Nat → Nat → Nat) (cy : Nat → ClassId) (p0 : Int32) (hv : ¬ (0 ≤ p0 ∧ p0 ≤ 4)) : ctI l (dC, dI) cy yX11_isIn cX11_isIn 3 .boolean 1 60 0 0 Unit [.int p0, .int 0, .int 4] [] (fun r _ => r = 0) (fun u => []) := by
  refine ctI_of (by decide) (Nat.le_of_ble_eq_true rfl) (fun p e s m below meth c A ls Q hx hb hml hts hown hE hP hD hA hl ret => ?_)
  have hown : s.vm.findClass RX11 = some m.cls := hown
  have hS : va_S A s.heap s.heap [] := va_S.rf
  have hl : lv_has ls 3 [(0, .int p0), (1, .int 0), (2, .int 4)] := hl
  refine lv_iload_n hx hb dX11_isIn_0 rfl (lv_at hl 0 rfl) ?_
  refine lv_iload_n hx hb dX11_isIn_1 rfl (lv_at hl 1 rfl) ?_
  refine lv_icmp_lt (tgt := 14) hx hb dX11_isIn_2 (by decide) (fun c1 => ?_) (fun c1 => ?_)
  · skip
    refine lv_iconst (v := 0) hx hb dX11_isIn_14 (by decide) ?_
    exact ret 0 () _ _ _ _ _ _ rfl rfl (hP.sub [] rfl) (hD.sub [] (by decide) rfl) hS dX11_isIn_15 (Nat.le_of_ble_eq_true rfl) (Nat.le_of_ble_eq_true rfl)
  · skip
    refine lv_iload_n hx hb dX11_isIn_5 rfl (lv_at hl 0 rfl) ?_
    refine lv_iload_n hx hb dX11_isIn_6 rfl (lv_at hl 2 rfl) ?_
    refine lv_icmp_gt (tgt := 14) hx hb dX11_isIn_7 (by decide) (fun _ => ?_) (fun c0 => absurd (po_X11_isIn_484 p0 hv c1) c0)
    refine lv_iconst (v := 0) hx hb dX11_isIn_14 (by decide) ?_
    exact ret 0 () _ _ _ _ _ _ rfl rfl (hP.sub [] rfl) (hD.sub [] (by decide) rfl) hS dX11_isIn_15 (Nat.le_of_ble_eq_true rfl) (Nat.le_of_ble_eq_true rfl)
theorem pt_X11_odds_485 (p2 : Int32) (c2 : 0 ≤ p2 ∧ p2 ≤ 1) (c2 : 0 ≤ p2 ∧ p2 ≤ 1) (c4 : ¬ p2 = 0) : (1 : Int32) = F_odds 0 p2 := by
  unfold F_odds
  (repeat' split)
  all_goals first | rfl | assumption | (exfalso; simp only [fa_lt, fa_le, fa_eq, tl_m1, tl_0, tl_1, tl_4, show (0 : Int32).toInt = 0 from by decide] at *; omega) | (simp only [fa_lt, fa_le, fa_eq, tl_m1, tl_0, tl_1, tl_4, show (0 : Int32).toInt = 0 from by decide] at *; omega)
theorem pt_X11_odds_486 (p2 : Int32) (c2 : 0 ≤ p2 ∧ p2 ≤ 1) (c2 : 0 ≤ p2 ∧ p2 ≤ 1) (c4 : p2 = 0) : (1 : Int32) = F_odds 0 p2 := by
  unfold F_odds
  (repeat' split)
  all_goals first | rfl | assumption | (exfalso; simp only [fa_lt, fa_le, fa_eq, tl_m1, tl_0, tl_1, tl_4, show (0 : Int32).toInt = 0 from by decide] at *; omega) | (simp only [fa_lt, fa_le, fa_eq, tl_m1, tl_0, tl_1, tl_4, show (0 : Int32).toInt = 0 from by decide] at *; omega)
theorem pt_X11_odds_487 (p2 : Int32) (c2 : 0 ≤ p2 ∧ p2 ≤ 1) (c2 : 0 ≤ p2 ∧ p2 ≤ 1) (c6 : ¬ p2 = 0) : (1 : Int32) = F_odds 1 p2 := by
  unfold F_odds
  (repeat' split)
  all_goals first | rfl | assumption | (exfalso; simp only [fa_lt, fa_le, fa_eq, tl_m1, tl_0, tl_1, tl_4, show (1 : Int32).toInt = 1 from by decide] at *; omega) | (simp only [fa_lt, fa_le, fa_eq, tl_m1, tl_0, tl_1, tl_4, show (1 : Int32).toInt = 1 from by decide] at *; omega)
theorem pt_X11_odds_488 (p2 : Int32) (c2 : 0 ≤ p2 ∧ p2 ≤ 1) (c2 : 0 ≤ p2 ∧ p2 ≤ 1) (c6 : p2 = 0) : (1 : Int32) = F_odds 1 p2 := by
  unfold F_odds
  (repeat' split)
  all_goals first | rfl | assumption | (exfalso; simp only [fa_lt, fa_le, fa_eq, tl_m1, tl_0, tl_1, tl_4, show (1 : Int32).toInt = 1 from by decide] at *; omega) | (simp only [fa_lt, fa_le, fa_eq, tl_m1, tl_0, tl_1, tl_4, show (1 : Int32).toInt = 1 from by decide] at *; omega)
theorem pt_X11_odds_489 (p2 : Int32) (c2 : 0 ≤ p2 ∧ p2 ≤ 1) (c2 : 0 ≤ p2 ∧ p2 ≤ 1) (c8 : ¬ p2 = 0) : (1 : Int32) = F_odds 2 p2 := by
  unfold F_odds
  (repeat' split)
  all_goals first | rfl | assumption | (exfalso; simp only [fa_lt, fa_le, fa_eq, tl_m1, tl_0, tl_1, tl_4, show (2 : Int32).toInt = 2 from by decide] at *; omega) | (simp only [fa_lt, fa_le, fa_eq, tl_m1, tl_0, tl_1, tl_4, show (2 : Int32).toInt = 2 from by decide] at *; omega)
theorem pt_X11_odds_490 (p2 : Int32) (c2 : 0 ≤ p2 ∧ p2 ≤ 1) (c2 : 0 ≤ p2 ∧ p2 ≤ 1) (c8 : p2 = 0) : (1 : Int32) = F_odds 2 p2 := by
  unfold F_odds
  (repeat' split)
  all_goals first | rfl | assumption | (exfalso; simp only [fa_lt, fa_le, fa_eq, tl_m1, tl_0, tl_1, tl_4, show (2 : Int32).toInt = 2 from by decide] at *; omega) | (simp only [fa_lt, fa_le, fa_eq, tl_m1, tl_0, tl_1, tl_4, show (2 : Int32).toInt = 2 from by decide] at *; omega)
theorem pt_X11_odds_491 (p2 : Int32) (c2 : 0 ≤ p2 ∧ p2 ≤ 1) (c2 : 0 ≤ p2 ∧ p2 ≤ 1) (c10 : ¬ p2 = 0) : (1 : Int32) = F_odds 3 p2 := by
  unfold F_odds
  (repeat' split)
  all_goals first | rfl | assumption | (exfalso; simp only [fa_lt, fa_le, fa_eq, tl_m1, tl_0, tl_1, tl_4, show (3 : Int32).toInt = 3 from by decide] at *; omega) | (simp only [fa_lt, fa_le, fa_eq, tl_m1, tl_0, tl_1, tl_4, show (3 : Int32).toInt = 3 from by decide] at *; omega)
theorem pt_X11_odds_492 (p2 : Int32) (c2 : 0 ≤ p2 ∧ p2 ≤ 1) (c2 : 0 ≤ p2 ∧ p2 ≤ 1) (c10 : p2 = 0) : (1 : Int32) = F_odds 3 p2 := by
  unfold F_odds
  (repeat' split)
  all_goals first | rfl | assumption | (exfalso; simp only [fa_lt, fa_le, fa_eq, tl_m1, tl_0, tl_1, tl_4, show (3 : Int32).toInt = 3 from by decide] at *; omega) | (simp only [fa_lt, fa_le, fa_eq, tl_m1, tl_0, tl_1, tl_4, show (3 : Int32).toInt = 3 from by decide] at *; omega)
theorem po_X11_odds_493 (p1 : Int32) (c1 : 0 ≤ p1 ∧ p1 ≤ 4) (c1 : 0 ≤ p1 ∧ p1 ≤ 4) (c3 : ¬ p1 = 0) (c5 : ¬ p1 = 1) (c7 : ¬ p1 = 2) (c9 : ¬ p1 = 3) : p1 = 4 := by simp only [fa_lt, fa_le, fa_eq, tl_0, tl_1, tl_2, tl_3, tl_4] at *; omega
theorem pt_X11_odds_494 (p2 : Int32) (c2 : 0 ≤ p2 ∧ p2 ≤ 1) (c2 : 0 ≤ p2 ∧ p2 ≤ 1) (c12 : ¬ p2 = 0) : (1 : Int32) = F_odds 4 p2 := by
  unfold F_odds
  (repeat' split)
  all_goals first | rfl | assumption | (exfalso; simp only [fa_lt, fa_le, fa_eq, tl_m1, tl_0, tl_1, tl_4, show (4 : Int32).toInt = 4 from by decide] at *; omega) | (simp only [fa_lt, fa_le, fa_eq, tl_m1, tl_0, tl_1, tl_4, show (4 : Int32).toInt = 4 from by decide] at *; omega)
theorem pt_X11_odds_495 (p2 : Int32) (c2 : 0 ≤ p2 ∧ p2 ≤ 1) (c2 : 0 ≤ p2 ∧ p2 ≤ 1) (c12 : p2 = 0) : (1 : Int32) = F_odds 4 p2 := by
  unfold F_odds
  (repeat' split)
  all_goals first | rfl | assumption | (exfalso; simp only [fa_lt, fa_le, fa_eq, tl_m1, tl_0, tl_1, tl_4, show (4 : Int32).toInt = 4 from by decide] at *; omega) | (simp only [fa_lt, fa_le, fa_eq, tl_m1, tl_0, tl_1, tl_4, show (4 : Int32).toInt = 4 from by decide] at *; omega)
theorem pt_X11_odds_496 (p1 : Int32) (p2 : Int32) (c1 : 0 ≤ p1 ∧ p1 ≤ 4) (c1 : 0 ≤ p1 ∧ p1 ≤ 4) (c2 : ¬ (0 ≤ p2 ∧ p2 ≤ 1)) : ((-1) : Int32) = F_odds p1 p2 := by
  unfold F_odds
  (repeat' split)
  all_goals first | rfl | assumption | (exfalso; simp only [fa_lt, fa_le, fa_eq, tl_m1, tl_0, tl_1, tl_4] at *; omega) | (simp only [fa_lt, fa_le, fa_eq, tl_m1, tl_0, tl_1, tl_4] at *; omega)
theorem pt_X11_odds_497 (p1 : Int32) (p2 : Int32) (c1 : ¬ (0 ≤ p1 ∧ p1 ≤ 4)) : ((-1) : Int32) = F_odds p1 p2 := by
  unfold F_odds
  (repeat' split)
  all_goals first | rfl | assumption | (exfalso; simp only [fa_lt, fa_le, fa_eq, tl_m1, tl_0, tl_1, tl_4] at *; omega) | (simp only [fa_lt, fa_le, fa_eq, tl_m1, tl_0, tl_1, tl_4] at *; omega)
set_option maxHeartbeats 4000000 in
set_option maxRecDepth 100000 in
theorem cnX11_odds_1 (l : Launch) (dC : Nat → ClassId) (dI : Nat → Nat → Nat) (cy : Nat → ClassId) (h0 : Nat) (r : Nat → Nat) (p1 : Int32) (p2 : Int32) : ctI l (dC, dI) cy yX11_odds cX11_odds 6 .int 2 84 0 0 Unit [.ref h0, .int p1, .int p2] [(h0, .inr (11, mFs r mv0))] (fun r _ => r = F_odds p1 p2) (fun u => []) := by
  refine ctI_of (by decide) (Nat.le_of_ble_eq_true rfl) (fun p e s m below meth c A ls Q hx hb hml hts hown hE hP hD hA hl ret => ?_)
  have hown : s.vm.findClass RX11 = some m.cls := hown
  have hS : va_S A s.heap s.heap [] := va_S.rf
  have hl : lv_has ls 6 [(0, .ref h0), (1, .int p1), (2, .int p2)] := hl
  refine lv_iload_n hx hb dX11_odds_0 rfl (lv_at hl 1 rfl) ?_
  refine lv_iconst (v := 0) hx hb dX11_odds_1 (by decide) ?_
  refine lv_iconst (v := 4) hx hb dX11_odds_2 (by decide) ?_
  by_cases c1 : (0 ≤ p1 ∧ p1 ≤ 4)
  · skip
    refine caSi (n := 3) (wr := [(h0, .inr (11, mFs r mv0))]) (rest := []) hx hb hml hown hts hE hP hD hS hA (cnX11_isIn_8 l dC dI cy p1 c1) k_1736 k_1737 k_114 k_1738 (by decide +kernel) ⟨Nat.le_of_ble_eq_true rfl, Nat.le_of_ble_eq_true rfl⟩ [] [0] rfl rfl rfl (by decide) (by decide) (by decide) rfl hl.1 rfl (Nat.le_of_ble_eq_true rfl) dX11_odds_3 ⟨Nat.le_of_ble_eq_true rfl, Nat.le_of_ble_eq_true rfl⟩ (fun rr u H locs hw hP hD hS => ?_)
    have hP : va_P (dC, dI) vwCl [(h0, .inr (11, mFs r mv0))] H := hP
    have hD : va_D A [(h0, .inr (11, mFs r mv0))] := hD
    refine tI (y := 1) hw ?_
    refine lv_if_eq (tgt := 18) hx hb dX11_odds_6 (by decide) (fun c0 => absurd c0 (by decide)) (fun _ => ?_)
    refine lv_iload_n hx hb dX11_odds_9 rfl (lv_at hl 2 rfl) ?_
    refine lv_iconst (v := 0) hx hb dX11_odds_10 (by decide) ?_
    refine lv_iconst (v := 1) hx hb dX11_odds_11 (by decide) ?_
    by_cases c2 : (0 ≤ p2 ∧ p2 ≤ 1)
    · skip
      refine caSi (n := 3) (wr := [(h0, .inr (11, mFs r mv0))]) (rest := []) hx hb hml hown hts hE hP hD hS hA (cnX11_isIn_2 l dC dI cy p2 c2) k_1736 k_1737 k_114 k_1738 (by decide +kernel) ⟨Nat.le_of_ble_eq_true rfl, Nat.le_of_ble_eq_true rfl⟩ [] [0] rfl rfl rfl (by decide) (by decide) (by decide) rfl hl.1 rfl (Nat.le_of_ble_eq_true rfl) dX11_odds_12 ⟨Nat.le_of_ble_eq_true rfl, Nat.le_of_ble_eq_true rfl⟩ (fun rr u H locs hw hP hD hS => ?_)
      have hP : va_P (dC, dI) vwCl [(h0, .inr (11, mFs r mv0))] H := hP
      have hD : va_D A [(h0, .inr (11, mFs r mv0))] := hD
      refine tI (y := 1) hw ?_
      refine lv_if_ne (tgt := 20) hx hb dX11_odds_15 (by decide) (fun _ => ?_) (fun c0 => absurd c0 (by decide))
      refine lv_bipush (v := 100) hx hb dX11_odds_20 (by decide) ?_
      refine lv_aload_n hx hb dX11_odds_22 rfl (lv_at hl 0 rfl) ?_
      refine va_get (D := (dC, dI)) (ci := 11) (v := .int 0) (C := RX11) (T := TX11) (N := 79) hx hb hts inB_11 hown hE.1 hP 0 rfl rfl 53 (by decide) (hts _ k_1373) (fun _ h9 => h9) rfl dX11_odds_23 ?_
      refine lv_isub hx hb dX11_odds_26 ?_
      refine tI (y := 100) (by decide) ?_
      refine lv_iload_n hx hb dX11_odds_27 rfl (lv_at hl 1 rfl) ?_
      by_cases c3 : p1 = 0
      · skip
        subst c3
        refine caSi (n := 2) (wr := [(h0, .inr (11, mFs r mv0))]) (rest := []) hx hb hml hown hts hE hP hD hS hA (cnX11_power_2 l dC dI cy ) k_1877 k_1878 k_114 k_1879 (by decide +kernel) ⟨Nat.le_of_ble_eq_true rfl, Nat.le_of_ble_eq_true rfl⟩ [] [0] rfl rfl rfl (by decide) (by decide) (by decide) rfl hl.1 rfl (Nat.le_of_ble_eq_true rfl) dX11_odds_28 ⟨Nat.le_of_ble_eq_true rfl, Nat.le_of_ble_eq_true rfl⟩ (fun rr u H locs hw hP hD hS => ?_)
        have hP : va_P (dC, dI) vwCl [(h0, .inr (11, mFs r mv0))] H := hP
        have hD : va_D A [(h0, .inr (11, mFs r mv0))] := hD
        refine tI (y := 1) hw ?_
        refine lv_istore_n (lv' := [(3, .int 1), (0, .ref h0), (1, .int 0), (2, .int p2)]) hx hb dX11_odds_31 rfl hl (by decide) rfl (fun ls hl => ?_)
        refine lv_bipush (v := 100) hx hb dX11_odds_32 (by decide) ?_
        refine lv_iload_n hx hb dX11_odds_34 rfl (lv_at hl 2 rfl) ?_
        refine caSi (n := 2) (wr := [(h0, .inr (11, mFs r mv0))]) (rest := []) hx hb hml hown hts hE hP hD hS hA (cnX11_power_2 l dC dI cy ) k_1877 k_1878 k_114 k_1879 (by decide +kernel) ⟨Nat.le_of_ble_eq_true rfl, Nat.le_of_ble_eq_true rfl⟩ [] [0] rfl rfl rfl (by decide) (by decide) (by decide) rfl hl.1 rfl (Nat.le_of_ble_eq_true rfl) dX11_odds_35 ⟨Nat.le_of_ble_eq_true rfl, Nat.le_of_ble_eq_true rfl⟩ (fun rr u H locs hw hP hD hS => ?_)
        have hP : va_P (dC, dI) vwCl [(h0, .inr (11, mFs r mv0))] H := hP
        have hD : va_D A [(h0, .inr (11, mFs r mv0))] := hD
        refine tI (y := 1) hw ?_
        refine lv_istore (lv' := [(4, .int 1), (3, .int 1), (0, .ref h0), (1, .int 0), (2, .int p2)]) hx hb dX11_odds_38 hl (by decide) rfl (fun ls hl => ?_)
        refine lv_iload hx hb dX11_odds_40 (lv_at hl 0 rfl) ?_
        refine lv_iload_n hx hb dX11_odds_42 rfl (lv_at hl 1 rfl) ?_
        refine caSi (n := 2) (wr := [(h0, .inr (11, mFs r mv0))]) (rest := []) hx hb hml hown hts hE hP hD hS hA (cnX11_divisor_1 l dC dI cy ) k_2000 k_2001 k_114 k_2002 (by decide +kernel) ⟨Nat.le_of_ble_eq_true rfl, Nat.le_of_ble_eq_true rfl⟩ [] [0] rfl rfl rfl (by decide) (by decide) (by decide) rfl hl.1 rfl (Nat.le_of_ble_eq_true rfl) dX11_odds_43 ⟨Nat.le_of_ble_eq_true rfl, Nat.le_of_ble_eq_true rfl⟩ (fun rr u H locs hw hP hD hS => ?_)
        have hP : va_P (dC, dI) vwCl [(h0, .inr (11, mFs r mv0))] H := hP
        have hD : va_D A [(h0, .inr (11, mFs r mv0))] := hD
        refine tI (y := 1) hw ?_
        refine lv_istore (lv' := [(5, .int 1), (4, .int 1), (3, .int 1), (0, .ref h0), (1, .int 0), (2, .int p2)]) hx hb dX11_odds_46 hl (by decide) rfl (fun ls hl => ?_)
        refine lv_iload_n hx hb dX11_odds_48 rfl (lv_at hl 5 rfl) ?_
        refine lv_if_ne (tgt := 59) hx hb dX11_odds_49 (by decide) (fun c4 => ?_) (fun c4 => ?_)
        · skip
          refine lv_iload hx hb dX11_odds_59 (lv_at hl 1 rfl) ?_
          refine lv_iload hx hb dX11_odds_61 (lv_at hl 0 rfl) ?_
          refine lv_idiv hx hb dX11_odds_63 (by decide) ?_
          refine tI (y := 1) (by decide) ?_
          exact ret 1 () _ _ _ _ _ _ rfl (pt_X11_odds_485 p2 c2 c2 c4) (hP.sub [] rfl) (hD.sub [] (by decide) rfl) hS dX11_odds_64 (Nat.le_of_ble_eq_true rfl) (Nat.le_of_ble_eq_true rfl)
        · skip
          refine lv_iload_n hx hb dX11_odds_52 rfl (lv_at hl 2 rfl) ?_
          refine lv_iload hx hb dX11_odds_53 (lv_at hl 0 rfl) ?_
          refine lv_idiv hx hb dX11_odds_55 (by decide) ?_
          refine tI (y := 1) (by decide) ?_
          refine lv_goto (tgt := 64) hx hb dX11_odds_56 (by decide) ?_
          exact ret 1 () _ _ _ _ _ _ rfl (pt_X11_odds_486 p2 c2 c2 c4) (hP.sub [] rfl) (hD.sub [] (by decide) rfl) hS dX11_odds_64 (Nat.le_of_ble_eq_true rfl) (Nat.le_of_ble_eq_true rfl)
      · skip
        by_cases c5 : p1 = 1
        · skip
          subst c5
          refine caSi (n := 2) (wr := [(h0, .inr (11, mFs r mv0))]) (rest := []) hx hb hml hown hts hE hP hD hS hA (cnX11_power_3 l dC dI cy ) k_1877 k_1878 k_114 k_1879 (by decide +kernel) ⟨Nat.le_of_ble_eq_true rfl, Nat.le_of_ble_eq_true rfl⟩ [] [0] rfl rfl rfl (by decide) (by decide) (by decide) rfl hl.1 rfl (Nat.le_of_ble_eq_true rfl) dX11_odds_28 ⟨Nat.le_of_ble_eq_true rfl, Nat.le_of_ble_eq_true rfl⟩ (fun rr u H locs hw hP hD hS => ?_)
          have hP : va_P (dC, dI) vwCl [(h0, .inr (11, mFs r mv0))] H := hP
          have hD : va_D A [(h0, .inr (11, mFs r mv0))] := hD
          refine tI (y := 100) hw ?_
          refine lv_istore_n (lv' := [(3, .int 100), (0, .ref h0), (1, .int 1), (2, .int p2)]) hx hb dX11_odds_31 rfl hl (by decide) rfl (fun ls hl => ?_)
          refine lv_bipush (v := 100) hx hb dX11_odds_32 (by decide) ?_
          refine lv_iload_n hx hb dX11_odds_34 rfl (lv_at hl 2 rfl) ?_
          refine caSi (n := 2) (wr := [(h0, .inr (11, mFs r mv0))]) (rest := []) hx hb hml hown hts hE hP hD hS hA (cnX11_power_3 l dC dI cy ) k_1877 k_1878 k_114 k_1879 (by decide +kernel) ⟨Nat.le_of_ble_eq_true rfl, Nat.le_of_ble_eq_true rfl⟩ [] [0] rfl rfl rfl (by decide) (by decide) (by decide) rfl hl.1 rfl (Nat.le_of_ble_eq_true rfl) dX11_odds_35 ⟨Nat.le_of_ble_eq_true rfl, Nat.le_of_ble_eq_true rfl⟩ (fun rr u H locs hw hP hD hS => ?_)
          have hP : va_P (dC, dI) vwCl [(h0, .inr (11, mFs r mv0))] H := hP
          have hD : va_D A [(h0, .inr (11, mFs r mv0))] := hD
          refine tI (y := 100) hw ?_
          refine lv_istore (lv' := [(4, .int 100), (3, .int 100), (0, .ref h0), (1, .int 1), (2, .int p2)]) hx hb dX11_odds_38 hl (by decide) rfl (fun ls hl => ?_)
          refine lv_iload hx hb dX11_odds_40 (lv_at hl 0 rfl) ?_
          refine lv_iload_n hx hb dX11_odds_42 rfl (lv_at hl 1 rfl) ?_
          refine caSi (n := 2) (wr := [(h0, .inr (11, mFs r mv0))]) (rest := []) hx hb hml hown hts hE hP hD hS hA (cnX11_divisor_2 l dC dI cy ) k_2000 k_2001 k_114 k_2002 (by decide +kernel) ⟨Nat.le_of_ble_eq_true rfl, Nat.le_of_ble_eq_true rfl⟩ [] [0] rfl rfl rfl (by decide) (by decide) (by decide) rfl hl.1 rfl (Nat.le_of_ble_eq_true rfl) dX11_odds_43 ⟨Nat.le_of_ble_eq_true rfl, Nat.le_of_ble_eq_true rfl⟩ (fun rr u H locs hw hP hD hS => ?_)
          have hP : va_P (dC, dI) vwCl [(h0, .inr (11, mFs r mv0))] H := hP
          have hD : va_D A [(h0, .inr (11, mFs r mv0))] := hD
          refine tI (y := 100) hw ?_
          refine lv_istore (lv' := [(5, .int 100), (4, .int 100), (3, .int 100), (0, .ref h0), (1, .int 1), (2, .int p2)]) hx hb dX11_odds_46 hl (by decide) rfl (fun ls hl => ?_)
          refine lv_iload_n hx hb dX11_odds_48 rfl (lv_at hl 5 rfl) ?_
          refine lv_if_ne (tgt := 59) hx hb dX11_odds_49 (by decide) (fun c6 => ?_) (fun c6 => ?_)
          · skip
            refine lv_iload hx hb dX11_odds_59 (lv_at hl 1 rfl) ?_
            refine lv_iload hx hb dX11_odds_61 (lv_at hl 0 rfl) ?_
            refine lv_idiv hx hb dX11_odds_63 (by decide) ?_
            refine tI (y := 1) (by decide) ?_
            exact ret 1 () _ _ _ _ _ _ rfl (pt_X11_odds_487 p2 c2 c2 c6) (hP.sub [] rfl) (hD.sub [] (by decide) rfl) hS dX11_odds_64 (Nat.le_of_ble_eq_true rfl) (Nat.le_of_ble_eq_true rfl)
          · skip
            refine lv_iload_n hx hb dX11_odds_52 rfl (lv_at hl 2 rfl) ?_
            refine lv_iload hx hb dX11_odds_53 (lv_at hl 0 rfl) ?_
            refine lv_idiv hx hb dX11_odds_55 (by decide) ?_
            refine tI (y := 1) (by decide) ?_
            refine lv_goto (tgt := 64) hx hb dX11_odds_56 (by decide) ?_
            exact ret 1 () _ _ _ _ _ _ rfl (pt_X11_odds_488 p2 c2 c2 c6) (hP.sub [] rfl) (hD.sub [] (by decide) rfl) hS dX11_odds_64 (Nat.le_of_ble_eq_true rfl) (Nat.le_of_ble_eq_true rfl)
        · skip
          by_cases c7 : p1 = 2
          · skip
            subst c7
            refine caSi (n := 2) (wr := [(h0, .inr (11, mFs r mv0))]) (rest := []) hx hb hml hown hts hE hP hD hS hA (cnX11_power_4 l dC dI cy ) k_1877 k_1878 k_114 k_1879 (by decide +kernel) ⟨Nat.le_of_ble_eq_true rfl, Nat.le_of_ble_eq_true rfl⟩ [] [0] rfl rfl rfl (by decide) (by decide) (by decide) rfl hl.1 rfl (Nat.le_of_ble_eq_true rfl) dX11_odds_28 ⟨Nat.le_of_ble_eq_true rfl, Nat.le_of_ble_eq_true rfl⟩ (fun rr u H locs hw hP hD hS => ?_)
            have hP : va_P (dC, dI) vwCl [(h0, .inr (11, mFs r mv0))] H := hP
            have hD : va_D A [(h0, .inr (11, mFs r mv0))] := hD
            refine tI (y := 10000) hw ?_
            refine lv_istore_n (lv' := [(3, .int 10000), (0, .ref h0), (1, .int 2), (2, .int p2)]) hx hb dX11_odds_31 rfl hl (by decide) rfl (fun ls hl => ?_)
            refine lv_bipush (v := 100) hx hb dX11_odds_32 (by decide) ?_
            refine lv_iload_n hx hb dX11_odds_34 rfl (lv_at hl 2 rfl) ?_
            refine caSi (n := 2) (wr := [(h0, .inr (11, mFs r mv0))]) (rest := []) hx hb hml hown hts hE hP hD hS hA (cnX11_power_4 l dC dI cy ) k_1877 k_1878 k_114 k_1879 (by decide +kernel) ⟨Nat.le_of_ble_eq_true rfl, Nat.le_of_ble_eq_true rfl⟩ [] [0] rfl rfl rfl (by decide) (by decide) (by decide) rfl hl.1 rfl (Nat.le_of_ble_eq_true rfl) dX11_odds_35 ⟨Nat.le_of_ble_eq_true rfl, Nat.le_of_ble_eq_true rfl⟩ (fun rr u H locs hw hP hD hS => ?_)
            have hP : va_P (dC, dI) vwCl [(h0, .inr (11, mFs r mv0))] H := hP
            have hD : va_D A [(h0, .inr (11, mFs r mv0))] := hD
            refine tI (y := 10000) hw ?_
            refine lv_istore (lv' := [(4, .int 10000), (3, .int 10000), (0, .ref h0), (1, .int 2), (2, .int p2)]) hx hb dX11_odds_38 hl (by decide) rfl (fun ls hl => ?_)
            refine lv_iload hx hb dX11_odds_40 (lv_at hl 0 rfl) ?_
            refine lv_iload_n hx hb dX11_odds_42 rfl (lv_at hl 1 rfl) ?_
            refine caSi (n := 2) (wr := [(h0, .inr (11, mFs r mv0))]) (rest := []) hx hb hml hown hts hE hP hD hS hA (cnX11_divisor_3 l dC dI cy ) k_2000 k_2001 k_114 k_2002 (by decide +kernel) ⟨Nat.le_of_ble_eq_true rfl, Nat.le_of_ble_eq_true rfl⟩ [] [0] rfl rfl rfl (by decide) (by decide) (by decide) rfl hl.1 rfl (Nat.le_of_ble_eq_true rfl) dX11_odds_43 ⟨Nat.le_of_ble_eq_true rfl, Nat.le_of_ble_eq_true rfl⟩ (fun rr u H locs hw hP hD hS => ?_)
            have hP : va_P (dC, dI) vwCl [(h0, .inr (11, mFs r mv0))] H := hP
            have hD : va_D A [(h0, .inr (11, mFs r mv0))] := hD
            refine tI (y := 10000) hw ?_
            refine lv_istore (lv' := [(5, .int 10000), (4, .int 10000), (3, .int 10000), (0, .ref h0), (1, .int 2), (2, .int p2)]) hx hb dX11_odds_46 hl (by decide) rfl (fun ls hl => ?_)
            refine lv_iload_n hx hb dX11_odds_48 rfl (lv_at hl 5 rfl) ?_
            refine lv_if_ne (tgt := 59) hx hb dX11_odds_49 (by decide) (fun c8 => ?_) (fun c8 => ?_)
            · skip
              refine lv_iload hx hb dX11_odds_59 (lv_at hl 1 rfl) ?_
              refine lv_iload hx hb dX11_odds_61 (lv_at hl 0 rfl) ?_
              refine lv_idiv hx hb dX11_odds_63 (by decide) ?_
              refine tI (y := 1) (by decide) ?_
              exact ret 1 () _ _ _ _ _ _ rfl (pt_X11_odds_489 p2 c2 c2 c8) (hP.sub [] rfl) (hD.sub [] (by decide) rfl) hS dX11_odds_64 (Nat.le_of_ble_eq_true rfl) (Nat.le_of_ble_eq_true rfl)
            · skip
              refine lv_iload_n hx hb dX11_odds_52 rfl (lv_at hl 2 rfl) ?_
              refine lv_iload hx hb dX11_odds_53 (lv_at hl 0 rfl) ?_
              refine lv_idiv hx hb dX11_odds_55 (by decide) ?_
              refine tI (y := 1) (by decide) ?_
              refine lv_goto (tgt := 64) hx hb dX11_odds_56 (by decide) ?_
              exact ret 1 () _ _ _ _ _ _ rfl (pt_X11_odds_490 p2 c2 c2 c8) (hP.sub [] rfl) (hD.sub [] (by decide) rfl) hS dX11_odds_64 (Nat.le_of_ble_eq_true rfl) (Nat.le_of_ble_eq_true rfl)
          · skip
            by_cases c9 : p1 = 3
            · skip
              subst c9
              refine caSi (n := 2) (wr := [(h0, .inr (11, mFs r mv0))]) (rest := []) hx hb hml hown hts hE hP hD hS hA (cnX11_power_5 l dC dI cy ) k_1877 k_1878 k_114 k_1879 (by decide +kernel) ⟨Nat.le_of_ble_eq_true rfl, Nat.le_of_ble_eq_true rfl⟩ [] [0] rfl rfl rfl (by decide) (by decide) (by decide) rfl hl.1 rfl (Nat.le_of_ble_eq_true rfl) dX11_odds_28 ⟨Nat.le_of_ble_eq_true rfl, Nat.le_of_ble_eq_true rfl⟩ (fun rr u H locs hw hP hD hS => ?_)
              have hP : va_P (dC, dI) vwCl [(h0, .inr (11, mFs r mv0))] H := hP
              have hD : va_D A [(h0, .inr (11, mFs r mv0))] := hD
              refine tI (y := 1000000) hw ?_
              refine lv_istore_n (lv' := [(3, .int 1000000), (0, .ref h0), (1, .int 3), (2, .int p2)]) hx hb dX11_odds_31 rfl hl (by decide) rfl (fun ls hl => ?_)
              refine lv_bipush (v := 100) hx hb dX11_odds_32 (by decide) ?_
              refine lv_iload_n hx hb dX11_odds_34 rfl (lv_at hl 2 rfl) ?_
              refine caSi (n := 2) (wr := [(h0, .inr (11, mFs r mv0))]) (rest := []) hx hb hml hown hts hE hP hD hS hA (cnX11_power_5 l dC dI cy ) k_1877 k_1878 k_114 k_1879 (by decide +kernel) ⟨Nat.le_of_ble_eq_true rfl, Nat.le_of_ble_eq_true rfl⟩ [] [0] rfl rfl rfl (by decide) (by decide) (by decide) rfl hl.1 rfl (Nat.le_of_ble_eq_true rfl) dX11_odds_35 ⟨Nat.le_of_ble_eq_true rfl, Nat.le_of_ble_eq_true rfl⟩ (fun rr u H locs hw hP hD hS => ?_)
              have hP : va_P (dC, dI) vwCl [(h0, .inr (11, mFs r mv0))] H := hP
              have hD : va_D A [(h0, .inr (11, mFs r mv0))] := hD
              refine tI (y := 1000000) hw ?_
              refine lv_istore (lv' := [(4, .int 1000000), (3, .int 1000000), (0, .ref h0), (1, .int 3), (2, .int p2)]) hx hb dX11_odds_38 hl (by decide) rfl (fun ls hl => ?_)
              refine lv_iload hx hb dX11_odds_40 (lv_at hl 0 rfl) ?_
              refine lv_iload_n hx hb dX11_odds_42 rfl (lv_at hl 1 rfl) ?_
              refine caSi (n := 2) (wr := [(h0, .inr (11, mFs r mv0))]) (rest := []) hx hb hml hown hts hE hP hD hS hA (cnX11_divisor_4 l dC dI cy ) k_2000 k_2001 k_114 k_2002 (by decide +kernel) ⟨Nat.le_of_ble_eq_true rfl, Nat.le_of_ble_eq_true rfl⟩ [] [0] rfl rfl rfl (by decide) (by decide) (by decide) rfl hl.1 rfl (Nat.le_of_ble_eq_true rfl) dX11_odds_43 ⟨Nat.le_of_ble_eq_true rfl, Nat.le_of_ble_eq_true rfl⟩ (fun rr u H locs hw hP hD hS => ?_)
              have hP : va_P (dC, dI) vwCl [(h0, .inr (11, mFs r mv0))] H := hP
              have hD : va_D A [(h0, .inr (11, mFs r mv0))] := hD
              refine tI (y := 1000000) hw ?_
              refine lv_istore (lv' := [(5, .int 1000000), (4, .int 1000000), (3, .int 1000000), (0, .ref h0), (1, .int 3), (2, .int p2)]) hx hb dX11_odds_46 hl (by decide) rfl (fun ls hl => ?_)
              refine lv_iload_n hx hb dX11_odds_48 rfl (lv_at hl 5 rfl) ?_
              refine lv_if_ne (tgt := 59) hx hb dX11_odds_49 (by decide) (fun c10 => ?_) (fun c10 => ?_)
              · skip
                refine lv_iload hx hb dX11_odds_59 (lv_at hl 1 rfl) ?_
                refine lv_iload hx hb dX11_odds_61 (lv_at hl 0 rfl) ?_
                refine lv_idiv hx hb dX11_odds_63 (by decide) ?_
                refine tI (y := 1) (by decide) ?_
                exact ret 1 () _ _ _ _ _ _ rfl (pt_X11_odds_491 p2 c2 c2 c10) (hP.sub [] rfl) (hD.sub [] (by decide) rfl) hS dX11_odds_64 (Nat.le_of_ble_eq_true rfl) (Nat.le_of_ble_eq_true rfl)
              · skip
                refine lv_iload_n hx hb dX11_odds_52 rfl (lv_at hl 2 rfl) ?_
                refine lv_iload hx hb dX11_odds_53 (lv_at hl 0 rfl) ?_
                refine lv_idiv hx hb dX11_odds_55 (by decide) ?_
                refine tI (y := 1) (by decide) ?_
                refine lv_goto (tgt := 64) hx hb dX11_odds_56 (by decide) ?_
                exact ret 1 () _ _ _ _ _ _ rfl (pt_X11_odds_492 p2 c2 c2 c10) (hP.sub [] rfl) (hD.sub [] (by decide) rfl) hS dX11_odds_64 (Nat.le_of_ble_eq_true rfl) (Nat.le_of_ble_eq_true rfl)
            · skip
              have c11 : p1 = 4 := (po_X11_odds_493 p1 c1 c1 c3 c5 c7 c9)
              subst c11
              refine caSi (n := 2) (wr := [(h0, .inr (11, mFs r mv0))]) (rest := []) hx hb hml hown hts hE hP hD hS hA (cnX11_power_6 l dC dI cy ) k_1877 k_1878 k_114 k_1879 (by decide +kernel) ⟨Nat.le_of_ble_eq_true rfl, Nat.le_of_ble_eq_true rfl⟩ [] [0] rfl rfl rfl (by decide) (by decide) (by decide) rfl hl.1 rfl (Nat.le_of_ble_eq_true rfl) dX11_odds_28 ⟨Nat.le_of_ble_eq_true rfl, Nat.le_of_ble_eq_true rfl⟩ (fun rr u H locs hw hP hD hS => ?_)
              have hP : va_P (dC, dI) vwCl [(h0, .inr (11, mFs r mv0))] H := hP
              have hD : va_D A [(h0, .inr (11, mFs r mv0))] := hD
              refine tI (y := 100000000) hw ?_
              refine lv_istore_n (lv' := [(3, .int 100000000), (0, .ref h0), (1, .int 4), (2, .int p2)]) hx hb dX11_odds_31 rfl hl (by decide) rfl (fun ls hl => ?_)
              refine lv_bipush (v := 100) hx hb dX11_odds_32 (by decide) ?_
              refine lv_iload_n hx hb dX11_odds_34 rfl (lv_at hl 2 rfl) ?_
              refine caSi (n := 2) (wr := [(h0, .inr (11, mFs r mv0))]) (rest := []) hx hb hml hown hts hE hP hD hS hA (cnX11_power_6 l dC dI cy ) k_1877 k_1878 k_114 k_1879 (by decide +kernel) ⟨Nat.le_of_ble_eq_true rfl, Nat.le_of_ble_eq_true rfl⟩ [] [0] rfl rfl rfl (by decide) (by decide) (by decide) rfl hl.1 rfl (Nat.le_of_ble_eq_true rfl) dX11_odds_35 ⟨Nat.le_of_ble_eq_true rfl, Nat.le_of_ble_eq_true rfl⟩ (fun rr u H locs hw hP hD hS => ?_)
              have hP : va_P (dC, dI) vwCl [(h0, .inr (11, mFs r mv0))] H := hP
              have hD : va_D A [(h0, .inr (11, mFs r mv0))] := hD
              refine tI (y := 100000000) hw ?_
              refine lv_istore (lv' := [(4, .int 100000000), (3, .int 100000000), (0, .ref h0), (1, .int 4), (2, .int p2)]) hx hb dX11_odds_38 hl (by decide) rfl (fun ls hl => ?_)
              refine lv_iload hx hb dX11_odds_40 (lv_at hl 0 rfl) ?_
              refine lv_iload_n hx hb dX11_odds_42 rfl (lv_at hl 1 rfl) ?_
              refine caSi (n := 2) (wr := [(h0, .inr (11, mFs r mv0))]) (rest := []) hx hb hml hown hts hE hP hD hS hA (cnX11_divisor_5 l dC dI cy ) k_2000 k_2001 k_114 k_2002 (by decide +kernel) ⟨Nat.le_of_ble_eq_true rfl, Nat.le_of_ble_eq_true rfl⟩ [] [0] rfl rfl rfl (by decide) (by decide) (by decide) rfl hl.1 rfl (Nat.le_of_ble_eq_true rfl) dX11_odds_43 ⟨Nat.le_of_ble_eq_true rfl, Nat.le_of_ble_eq_true rfl⟩ (fun rr u H locs hw hP hD hS => ?_)
              have hP : va_P (dC, dI) vwCl [(h0, .inr (11, mFs r mv0))] H := hP
              have hD : va_D A [(h0, .inr (11, mFs r mv0))] := hD
              refine tI (y := 100000000) hw ?_
              refine lv_istore (lv' := [(5, .int 100000000), (4, .int 100000000), (3, .int 100000000), (0, .ref h0), (1, .int 4), (2, .int p2)]) hx hb dX11_odds_46 hl (by decide) rfl (fun ls hl => ?_)
              refine lv_iload_n hx hb dX11_odds_48 rfl (lv_at hl 5 rfl) ?_
              refine lv_if_ne (tgt := 59) hx hb dX11_odds_49 (by decide) (fun c12 => ?_) (fun c12 => ?_)
              · skip
                refine lv_iload hx hb dX11_odds_59 (lv_at hl 1 rfl) ?_
                refine lv_iload hx hb dX11_odds_61 (lv_at hl 0 rfl) ?_
                refine lv_idiv hx hb dX11_odds_63 (by decide) ?_
                refine tI (y := 1) (by decide) ?_
                exact ret 1 () _ _ _ _ _ _ rfl (pt_X11_odds_494 p2 c2 c2 c12) (hP.sub [] rfl) (hD.sub [] (by decide) rfl) hS dX11_odds_64 (Nat.le_of_ble_eq_true rfl) (Nat.le_of_ble_eq_true rfl)
              · skip
                refine lv_iload_n hx hb dX11_odds_52 rfl (lv_at hl 2 rfl) ?_
                refine lv_iload hx hb dX11_odds_53 (lv_at hl 0 rfl) ?_
                refine lv_idiv hx hb dX11_odds_55 (by decide) ?_
                refine tI (y := 1) (by decide) ?_
                refine lv_goto (tgt := 64) hx hb dX11_odds_56 (by decide) ?_
                exact ret 1 () _ _ _ _ _ _ rfl (pt_X11_odds_495 p2 c2 c2 c12) (hP.sub [] rfl) (hD.sub [] (by decide) rfl) hS dX11_odds_64 (Nat.le_of_ble_eq_true rfl) (Nat.le_of_ble_eq_true rfl)
    · skip
      refine caSi (n := 3) (wr := [(h0, .inr (11, mFs r mv0))]) (rest := []) hx hb hml hown hts hE hP hD hS hA (cnX11_isIn_3 l dC dI cy p2 c2) k_1736 k_1737 k_114 k_1738 (by decide +kernel) ⟨Nat.le_of_ble_eq_true rfl, Nat.le_of_ble_eq_true rfl⟩ [] [0] rfl rfl rfl (by decide) (by decide) (by decide) rfl hl.1 rfl (Nat.le_of_ble_eq_true rfl) dX11_odds_12 ⟨Nat.le_of_ble_eq_true rfl, Nat.le_of_ble_eq_true rfl⟩ (fun rr u H locs hw hP hD hS => ?_)
      have hP : va_P (dC, dI) vwCl [(h0, .inr (11, mFs r mv0))] H := hP
      have hD : va_D A [(h0, .inr (11, mFs r mv0))] := hD
      refine tI (y := 0) hw ?_
      refine lv_if_ne (tgt := 20) hx hb dX11_odds_15 (by decide) (fun c0 => absurd (by decide) c0) (fun _ => ?_)
      refine lv_iconst (v := (-1)) hx hb dX11_odds_18 (by decide) ?_
      exact ret (-1) () _ _ _ _ _ _ rfl (pt_X11_odds_496 p1 p2 c1 c1 c2) (hP.sub [] rfl) (hD.sub [] (by decide) rfl) hS dX11_odds_19 (Nat.le_of_ble_eq_true rfl) (Nat.le_of_ble_eq_true rfl)
  · skip
    refine caSi (n := 3) (wr := [(h0, .inr (11, mFs r mv0))]) (rest := []) hx hb hml hown hts hE hP hD hS hA (cnX11_isIn_9 l dC dI cy p1 c1) k_1736 k_1737 k_114 k_1738 (by decide +kernel) ⟨Nat.le_of_ble_eq_true rfl, Nat.le_of_ble_eq_true rfl⟩ [] [0] rfl rfl rfl (by decide) (by decide) (by decide) rfl hl.1 rfl (Nat.le_of_ble_eq_true rfl) dX11_odds_3 ⟨Nat.le_of_ble_eq_true rfl, Nat.le_of_ble_eq_true rfl⟩ (fun rr u H locs hw hP hD hS => ?_)
    have hP : va_P (dC, dI) vwCl [(h0, .inr (11, mFs r mv0))] H := hP
    have hD : va_D A [(h0, .inr (11, mFs r mv0))] := hD
    refine tI (y := 0) hw ?_
    refine lv_if_eq (tgt := 18) hx hb dX11_odds_6 (by decide) (fun _ => ?_) (fun c0 => absurd (by decide) c0)
    refine lv_iconst (v := (-1)) hx hb dX11_odds_18 (by decide) ?_
    exact ret (-1) () _ _ _ _ _ _ rfl (pt_X11_odds_497 p1 p2 c1) (hP.sub [] rfl) (hD.sub [] (by decide) rfl) hS dX11_odds_19 (Nat.le_of_ble_eq_true rfl) (Nat.le_of_ble_eq_true rfl)
