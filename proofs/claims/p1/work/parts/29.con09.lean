theorem po_X0_lying_498 (p1 : Int32) (c1 : ¬ p1 < 0) : 0 ≤ p1 := by simp only [fa_lt, fa_le, fa_eq, tl_0] at *; omega
set_option maxHeartbeats 4000000 in
set_option maxRecDepth 100000 in
theorem cnX0_lying_1 (l : Launch) (dC : Nat → ClassId) (dI : Nat → Nat → Nat) (cy : Nat → ClassId) (h0 : Nat) (b0 : Nat) (b1 : Nat) (b2 : Nat) (b3 : Nat) (b4 : Nat) (p1 : Int32) : ctI l (dC, dI) cy yX0_lying cX0_lying 2 .int 1 60 0 0 Unit [.ref h0, .int p1] [(h0, .inr (0, [.ref b0, .ref b1, .ref b2, .int 0, .ref b3, .ref b4, .int 0, .int 0]))] (fun r _ => r = (-2)) (fun u => [(h0, .inr (0, [.ref b0, .ref b1, .ref b2, .int 0, .ref b3, .ref b4, .int 0, .int 0]))]) := by
  refine ctI_of (by decide) (Nat.le_of_ble_eq_true rfl) (fun p e s m below meth c A ls Q hx hb hml hts hown hE hP hD hA hl ret => ?_)
  have hown : s.vm.findClass RX0 = some m.cls := hown
  have hS : va_S A s.heap s.heap [] := va_S.rf
  have hl : lv_has ls 2 [(0, .ref h0), (1, .int p1)] := hl
  refine lv_iload_n hx hb dX0_lying_0 rfl (lv_at hl 1 rfl) ?_
  refine lv_if_lt (tgt := 30) hx hb dX0_lying_1 (by decide) (fun c1 => ?_) (fun c1 => ?_)
  · skip
    refine lv_bipush (v := (-2)) hx hb dX0_lying_30 (by decide) ?_
    exact ret (-2) () _ _ _ _ _ _ rfl rfl (hP.sub [0] rfl) (hD.sub [0] (by decide) rfl) hS dX0_lying_32 (Nat.le_of_ble_eq_true rfl) (Nat.le_of_ble_eq_true rfl)
  · skip
    refine lv_iload_n hx hb dX0_lying_4 rfl (lv_at hl 1 rfl) ?_
    refine lv_aload_n hx hb dX0_lying_5 rfl (lv_at hl 0 rfl) ?_
    refine va_get (D := (dC, dI)) (ci := 0) (v := .int 0) (C := RX0) (T := TX0) (N := 8) hx hb hts inB_0 hown hE.1 hP 0 rfl rfl 3 (by decide) (hts _ k_433) (fun _ h9 => h9) rfl dX0_lying_6 ?_
    refine lv_icmp_ge (tgt := 30) hx hb dX0_lying_9 (by decide) (fun _ => ?_) (fun c0 => absurd (po_X0_lying_498 p1 c1) c0)
    refine lv_bipush (v := (-2)) hx hb dX0_lying_30 (by decide) ?_
    exact ret (-2) () _ _ _ _ _ _ rfl rfl (hP.sub [0] rfl) (hD.sub [0] (by decide) rfl) hS dX0_lying_32 (Nat.le_of_ble_eq_true rfl) (Nat.le_of_ble_eq_true rfl)
theorem pt_X10_lies_499 (p1 : Int32) : ((-2) : Int32) = F_lies p1 := by
  unfold F_lies
  (repeat' split)
  all_goals first | rfl | assumption | (exfalso; simp only [fa_lt, fa_le, fa_eq, tl_m2] at *; omega) | (simp only [fa_lt, fa_le, fa_eq, tl_m2] at *; omega)
set_option maxHeartbeats 4000000 in
set_option maxRecDepth 100000 in
theorem cnX10_lies_1 (l : Launch) (dC : Nat → ClassId) (dI : Nat → Nat → Nat) (cy : Nat → ClassId) (h0 : Nat) (h1 : Nat) (b0 : Nat) (b1 : Nat) (b2 : Nat) (b3 : Nat) (b4 : Nat) (b5 : Nat) (b6 : Nat) (b7 : Nat) (b8 : Nat) (b9 : Nat) (b10 : Nat) (p1 : Int32) : ctI l (dC, dI) cy yX10_lies cX10_lies 2 .int 2 81 0 0 Unit [.ref h0, .int p1] [(h0, .inr (10, [.ref b0, .ref b1, .ref b2, .ref b3, .ref b4, .ref b5, .ref b6, .ref h1, .ref b7, .int 0])), (h1, .inr (0, [.ref b2, .ref b3, .ref b8, .int 0, .ref b9, .ref b10, .int 0, .int 0]))] (fun r _ => r = F_lies p1) (fun u => []) := by
  refine ctI_of (by decide) (Nat.le_of_ble_eq_true rfl) (fun p e s m below meth c A ls Q hx hb hml hts hown hE hP hD hA hl ret => ?_)
  have hown : s.vm.findClass RX10 = some m.cls := hown
  have hS : va_S A s.heap s.heap [] := va_S.rf
  have hl : lv_has ls 2 [(0, .ref h0), (1, .int p1)] := hl
  refine lv_aload_n hx hb dX10_lies_0 rfl (lv_at hl 0 rfl) ?_
  refine va_get (D := (dC, dI)) (ci := 10) (v := .ref h1) (C := RX10) (T := TX10) (N := 10) hx hb hts inB_10 hown hE.1 hP 0 rfl rfl 7 (by decide) (hts _ k_498) (fun _ h9 => h9) rfl dX10_lies_1 ?_
  refine lv_iload_n hx hb dX10_lies_4 rfl (lv_at hl 1 rfl) ?_
  refine caVi (n := 1) (wr := [(h0, .inr (10, [.ref b0, .ref b1, .ref b2, .ref b3, .ref b4, .ref b5, .ref b6, .ref h1, .ref b7, .int 0]))]) (rest := []) hx hb hml hown hts hE hP hD hS hA (cnX0_lying_1 l dC dI cy h1 b2 b3 b8 b9 b10 p1) k_1218 k_1219 k_1220 k_111 k_1221 (by decide +kernel) ⟨Nat.le_of_ble_eq_true rfl, Nat.le_of_ble_eq_true rfl⟩ [1] [0] rfl rfl rfl (by decide) (by decide) (by decide) 0 0 rfl rfl rfl hl.1 rfl (Nat.le_of_ble_eq_true rfl) dX10_lies_5 ⟨Nat.le_of_ble_eq_true rfl, Nat.le_of_ble_eq_true rfl⟩ (fun rr u H locs hw hP hD hS => ?_)
  have hP : va_P (dC, dI) vwCl [(h0, .inr (10, [.ref b0, .ref b1, .ref b2, .ref b3, .ref b4, .ref b5, .ref b6, .ref h1, .ref b7, .int 0])), (h1, .inr (0, [.ref b2, .ref b3, .ref b8, .int 0, .ref b9, .ref b10, .int 0, .int 0]))] H := hP
  have hD : va_D A [(h0, .inr (10, [.ref b0, .ref b1, .ref b2, .ref b3, .ref b4, .ref b5, .ref b6, .ref h1, .ref b7, .int 0])), (h1, .inr (0, [.ref b2, .ref b3, .ref b8, .int 0, .ref b9, .ref b10, .int 0, .int 0]))] := hD
  refine tI (y := (-2)) hw ?_
  exact ret (-2) () _ _ _ _ _ _ rfl (pt_X10_lies_499 p1) (hP.sub [] rfl) (hD.sub [] (by decide) rfl) hS dX10_lies_8 (Nat.le_of_ble_eq_true rfl) (Nat.le_of_ble_eq_true rfl)
theorem pt_X11_lies_500 (p1 : Int32) : ((-2) : Int32) = F_lies p1 := by
  unfold F_lies
  (repeat' split)
  all_goals first | rfl | assumption | (exfalso; simp only [fa_lt, fa_le, fa_eq, tl_m2] at *; omega) | (simp only [fa_lt, fa_le, fa_eq, tl_m2] at *; omega)
set_option maxHeartbeats 4000000 in
set_option maxRecDepth 100000 in
theorem cnX11_lies_1 (l : Launch) (dC : Nat → ClassId) (dI : Nat → Nat → Nat) (cy : Nat → ClassId) (h0 : Nat) (r : Nat → Nat) (p1 : Int32) : ctI l (dC, dI) cy yX11_lies cX11_lies 2 .int 2 82 0 0 Unit [.ref h0, .int p1] [(h0, .inr (11, mFs r mv0))] (fun r _ => r = F_lies p1) (fun u => []) := by
  refine ctI_of (by decide) (Nat.le_of_ble_eq_true rfl) (fun p e s m below meth c A ls Q hx hb hml hts hown hE hP hD hA hl ret => ?_)
  have hown : s.vm.findClass RX11 = some m.cls := hown
  have hS : va_S A s.heap s.heap [] := va_S.rf
  have hl : lv_has ls 2 [(0, .ref h0), (1, .int p1)] := hl
  refine lv_iload_n hx hb dX11_lies_0 rfl (lv_at hl 1 rfl) ?_
  refine lv_iconst (v := 0) hx hb dX11_lies_1 (by decide) ?_
  refine lv_aload_n hx hb dX11_lies_2 rfl (lv_at hl 0 rfl) ?_
  refine va_get (D := (dC, dI)) (ci := 11) (v := .int 0) (C := RX11) (T := TX11) (N := 79) hx hb hts inB_11 hown hE.1 hP 0 rfl rfl 67 (by decide) (hts _ k_1387) (fun _ h9 => h9) rfl dX11_lies_3 ?_
  refine lv_iconst (v := 1) hx hb dX11_lies_6 (by decide) ?_
  refine lv_isub hx hb dX11_lies_7 ?_
  refine tI (y := (-1)) (by decide) ?_
  refine caSi (n := 3) (wr := [(h0, .inr (11, mFs r mv0))]) (rest := []) hx hb hml hown hts hE hP hD hS hA (cnX11_isIn_1 l dC dI cy p1) k_1736 k_1737 k_114 k_1738 (by decide +kernel) ⟨Nat.le_of_ble_eq_true rfl, Nat.le_of_ble_eq_true rfl⟩ [] [0] rfl rfl rfl (by decide) (by decide) (by decide) rfl hl.1 rfl (Nat.le_of_ble_eq_true rfl) dX11_lies_8 ⟨Nat.le_of_ble_eq_true rfl, Nat.le_of_ble_eq_true rfl⟩ (fun rr u H locs hw hP hD hS => ?_)
  have hP : va_P (dC, dI) vwCl [(h0, .inr (11, mFs r mv0))] H := hP
  have hD : va_D A [(h0, .inr (11, mFs r mv0))] := hD
  refine tI (y := 0) hw ?_
  refine lv_if_eq (tgt := 23) hx hb dX11_lies_11 (by decide) (fun _ => ?_) (fun c0 => absurd (by decide) c0)
  refine lv_bipush (v := (-2)) hx hb dX11_lies_23 (by decide) ?_
  exact ret (-2) () _ _ _ _ _ _ rfl (pt_X11_lies_500 p1) (hP.sub [] rfl) (hD.sub [] (by decide) rfl) hS dX11_lies_25 (Nat.le_of_ble_eq_true rfl) (Nat.le_of_ble_eq_true rfl)
theorem pt_X10_seen_501 (p1 : Int32) (p2 : Int32) : ((-1) : Int32) = F_seen p1 p2 := by
  unfold F_seen
  (repeat' split)
  all_goals first | rfl | assumption | (exfalso; simp only [fa_lt, fa_le, fa_eq, tl_m1] at *; omega) | (simp only [fa_lt, fa_le, fa_eq, tl_m1] at *; omega)
set_option maxHeartbeats 4000000 in
set_option maxRecDepth 100000 in
theorem cnX10_seen_1 (l : Launch) (dC : Nat → ClassId) (dI : Nat → Nat → Nat) (cy : Nat → ClassId) (h0 : Nat) (h1 : Nat) (b0 : Nat) (b1 : Nat) (b2 : Nat) (b3 : Nat) (b4 : Nat) (b5 : Nat) (b6 : Nat) (b7 : Nat) (b8 : Nat) (b9 : Nat) (b10 : Nat) (p1 : Int32) (p2 : Int32) : ctI l (dC, dI) cy yX10_seen cX10_seen 3 .int 1 60 0 0 Unit [.ref h0, .int p1, .int p2] [(h0, .inr (10, [.ref b0, .ref b1, .ref h1, .ref b2, .ref b3, .ref b4, .ref b5, .ref b6, .ref b7, .int 0])), (h1, .inr (7, [.ref b8, .ref b9, .ref b10, .int 0, .int 0, .int 10, .int 150, .int 2, .int 0, .int 0]))] (fun r _ => r = F_seen p1 p2) (fun u => []) := by
  refine ctI_of (by decide) (Nat.le_of_ble_eq_true rfl) (fun p e s m below meth c A ls Q hx hb hml hts hown hE hP hD hA hl ret => ?_)
  have hown : s.vm.findClass RX10 = some m.cls := hown
  have hS : va_S A s.heap s.heap [] := va_S.rf
  have hl : lv_has ls 3 [(0, .ref h0), (1, .int p1), (2, .int p2)] := hl
  refine lv_aload_n hx hb dX10_seen_0 rfl (lv_at hl 0 rfl) ?_
  refine va_get (D := (dC, dI)) (ci := 10) (v := .ref h1) (C := RX10) (T := TX10) (N := 10) hx hb hts inB_10 hown hE.1 hP 0 rfl rfl 2 (by decide) (hts _ k_493) (fun _ h9 => h9) rfl dX10_seen_1 ?_
  refine va_getN (D := (dC, dI)) (ci := 7) (v := .int 0) (C := RX7) (T := TX7) (N := 10) hx hb hts inB_7 hown hE.1 hP 1 rfl rfl 3 (by decide) (va_Nw.use rfl (hE.2 _ k_214)) (fun _ h9 => h9) rfl dX10_seen_4 ?_
  refine lv_if_eq (tgt := 20) hx hb dX10_seen_7 (by decide) (fun _ => ?_) (fun c0 => absurd (by decide) c0)
  refine lv_iconst (v := (-1)) hx hb dX10_seen_20 (by decide) ?_
  exact ret (-1) () _ _ _ _ _ _ rfl (pt_X10_seen_501 p1 p2) (hP.sub [] rfl) (hD.sub [] (by decide) rfl) hS dX10_seen_21 (Nat.le_of_ble_eq_true rfl) (Nat.le_of_ble_eq_true rfl)
theorem po_X11_isIn_502 (p0 : Int32) (hv : 0 ≤ p0 ∧ p0 ≤ 20) (hv : 0 ≤ p0 ∧ p0 ≤ 20) : ¬ p0 < 0 := by simp only [fa_lt, fa_le, fa_eq, tl_0, tl_20] at *; omega
theorem po_X11_isIn_503 (p0 : Int32) (hv : 0 ≤ p0 ∧ p0 ≤ 20) (hv : 0 ≤ p0 ∧ p0 ≤ 20) : ¬ 20 < p0 := by simp only [fa_lt, fa_le, fa_eq, tl_0, tl_20] at *; omega
set_option maxHeartbeats 4000000 in
set_option maxRecDepth 100000 in
theorem cnX11_isIn_10 (l : Launch) (dC : Nat → ClassId) (dI : Nat → Nat → Nat) (cy : Nat → ClassId) (p0 : Int32) (hv : 0 ≤ p0 ∧ p0 ≤ 20) : ctI l (dC, dI) cy yX11_isIn cX11_isIn 3 .boolean 1 60 0 0 Unit [.int p0, .int 0, .int 20] [] (fun r _ => r = 1) (fun u => []) := by
  refine ctI_of (by decide) (Nat.le_of_ble_eq_true rfl) (fun p e s m below meth c A ls Q hx hb hml hts hown hE hP hD hA hl ret => ?_)
  have hown : s.vm.findClass RX11 = some m.cls := hown
  have hS : va_S A s.heap s.heap [] := va_S.rf
  have hl : lv_has ls 3 [(0, .int p0), (1, .int 0), (2, .int 20)] := hl
  refine lv_iload_n hx hb dX11_isIn_0 rfl (lv_at hl 0 rfl) ?_
  refine lv_iload_n hx hb dX11_isIn_1 rfl (lv_at hl 1 rfl) ?_
  refine lv_icmp_lt (tgt := 14) hx hb dX11_isIn_2 (by decide) (fun c0 => absurd c0 (po_X11_isIn_502 p0 hv hv)) (fun _ => ?_)
  refine lv_iload_n hx hb dX11_isIn_5 rfl (lv_at hl 0 rfl) ?_
  refine lv_iload_n hx hb dX11_isIn_6 rfl (lv_at hl 2 rfl) ?_
  refine lv_icmp_gt (tgt := 14) hx hb dX11_isIn_7 (by decide) (fun c0 => absurd c0 (po_X11_isIn_503 p0 hv hv)) (fun _ => ?_)
  refine lv_iconst (v := 1) hx hb dX11_isIn_10 (by decide) ?_
  refine lv_goto (tgt := 15) hx hb dX11_isIn_11 (by decide) ?_
  exact ret 1 () _ _ _ _ _ _ rfl rfl (hP.sub [] rfl) (hD.sub [] (by decide) rfl) hS dX11_isIn_15 (Nat.le_of_ble_eq_true rfl) (Nat.le_of_ble_eq_true rfl)
theorem po_X11_isIn_504 (p0 : Int32) (hv : ¬ (0 ≤ p0 ∧ p0 ≤ 20)) (c1 : ¬ p0 < 0) : 20 < p0 := by simp only [fa_lt, fa_le, fa_eq, tl_0, tl_20] at *; omega
set_option maxHeartbeats 4000000 in
set_option maxRecDepth 100000 in
theorem cnX11_isIn_11 (l : Launch) (dC : Nat → ClassId) (dI : Nat → Nat → Nat) (cy : Nat → ClassId) (p0 : Int32) (hv : ¬ (0 ≤ p0 ∧ p0 ≤ 20)) : ctI l (dC, dI) cy yX11_isIn cX11_isIn 3 .boolean 1 60 0 0 Unit [.int p0, .int 0, .int 20] [] (fun r _ => r = 0) (fun u => []) := by
  refine ctI_of (by decide) (Nat.le_of_ble_eq_true rfl) (fun p e s m below meth c A ls Q hx hb hml hts hown hE hP hD hA hl ret => ?_)
  have hown : s.vm.findClass RX11 = some m.cls := hown
  have hS : va_S A s.heap s.heap [] := va_S.rf
  have hl : lv_has ls 3 [(0, .int p0), (1, .int 0), (2, .int 20)] := hl
  refine lv_iload_n hx hb dX11_isIn_0 rfl (lv_at hl 0 rfl) ?_
  refine lv_iload_n hx hb dX11_isIn_1 rfl (lv_at hl 1 rfl) ?_
  refine lv_icmp_lt (tgt := 14) hx hb dX11_isIn_2 (by decide) (fun c1 => ?_) (fun c1 => ?_)
  · skip
    refine lv_iconst (v := 0) hx hb dX11_isIn_14 (by decide) ?_
    exact ret 0 () _ _ _ _ _ _ rfl rfl (hP.sub [] rfl) (hD.sub [] (by decide) rfl) hS dX11_isIn_15 (Nat.le_of_ble_eq_true rfl) (Nat.le_of_ble_eq_true rfl)
  · skip
    refine lv_iload_n hx hb dX11_isIn_5 rfl (lv_at hl 0 rfl) ?_
    refine lv_iload_n hx hb dX11_isIn_6 rfl (lv_at hl 2 rfl) ?_
    refine lv_icmp_gt (tgt := 14) hx hb dX11_isIn_7 (by decide) (fun _ => ?_) (fun c0 => absurd (po_X11_isIn_504 p0 hv c1) c0)
    refine lv_iconst (v := 0) hx hb dX11_isIn_14 (by decide) ?_
    exact ret 0 () _ _ _ _ _ _ rfl rfl (hP.sub [] rfl) (hD.sub [] (by decide) rfl) hS dX11_isIn_15 (Nat.le_of_ble_eq_true rfl) (Nat.le_of_ble_eq_true rfl)
theorem pt_X11_seen_505 (p1 : Int32) (p2 : Int32) (c1 : 0 ≤ p1 ∧ p1 ≤ 20) (c1 : 0 ≤ p1 ∧ p1 ≤ 20) : ((-1) : Int32) = F_seen p1 p2 := by
  unfold F_seen
  (repeat' split)
  all_goals first | rfl | assumption | (exfalso; simp only [fa_lt, fa_le, fa_eq, tl_m1, tl_0, tl_20] at *; omega) | (simp only [fa_lt, fa_le, fa_eq, tl_m1, tl_0, tl_20] at *; omega)
theorem pt_X11_seen_506 (p1 : Int32) (p2 : Int32) (c1 : ¬ (0 ≤ p1 ∧ p1 ≤ 20)) : ((-1) : Int32) = F_seen p1 p2 := by
  unfold F_seen
  (repeat' split)
  all_goals first | rfl | assumption | (exfalso; simp only [fa_lt, fa_le, fa_eq, tl_m1, tl_0, tl_20] at *; omega) | (simp only [fa_lt, fa_le, fa_eq, tl_m1, tl_0, tl_20] at *; omega)
set_option maxHeartbeats 4000000 in
set_option maxRecDepth 100000 in
theorem cnX11_seen_1 (l : Launch) (dC : Nat → ClassId) (dI : Nat → Nat → Nat) (cy : Nat → ClassId) (h0 : Nat) (r : Nat → Nat) (p1 : Int32) (p2 : Int32) : ctI l (dC, dI) cy yX11_seen cX11_seen 3 .int 2 82 0 0 Unit [.ref h0, .int p1, .int p2] [(h0, .inr (11, mFs r mv0))] (fun r _ => r = F_seen p1 p2) (fun u => []) := by
  refine ctI_of (by decide) (Nat.le_of_ble_eq_true rfl) (fun p e s m below meth c A ls Q hx hb hml hts hown hE hP hD hA hl ret => ?_)
  have hown : s.vm.findClass RX11 = some m.cls := hown
  have hS : va_S A s.heap s.heap [] := va_S.rf
  have hl : lv_has ls 3 [(0, .ref h0), (1, .int p1), (2, .int p2)] := hl
  refine lv_iload_n hx hb dX11_seen_0 rfl (lv_at hl 1 rfl) ?_
  refine lv_iconst (v := 0) hx hb dX11_seen_1 (by decide) ?_
  refine lv_bipush (v := 20) hx hb dX11_seen_2 (by decide) ?_
  by_cases c1 : (0 ≤ p1 ∧ p1 ≤ 20)
  · skip
    refine caSi (n := 3) (wr := [(h0, .inr (11, mFs r mv0))]) (rest := []) hx hb hml hown hts hE hP hD hS hA (cnX11_isIn_10 l dC dI cy p1 c1) k_1736 k_1737 k_114 k_1738 (by decide +kernel) ⟨Nat.le_of_ble_eq_true rfl, Nat.le_of_ble_eq_true rfl⟩ [] [0] rfl rfl rfl (by decide) (by decide) (by decide) rfl hl.1 rfl (Nat.le_of_ble_eq_true rfl) dX11_seen_4 ⟨Nat.le_of_ble_eq_true rfl, Nat.le_of_ble_eq_true rfl⟩ (fun rr u H locs hw hP hD hS => ?_)
    have hP : va_P (dC, dI) vwCl [(h0, .inr (11, mFs r mv0))] H := hP
    have hD : va_D A [(h0, .inr (11, mFs r mv0))] := hD
    refine tI (y := 1) hw ?_
    refine lv_if_eq (tgt := 33) hx hb dX11_seen_7 (by decide) (fun c0 => absurd c0 (by decide)) (fun _ => ?_)
    refine lv_aload_n hx hb dX11_seen_10 rfl (lv_at hl 0 rfl) ?_
    refine va_get (D := (dC, dI)) (ci := 11) (v := .int 0) (C := RX11) (T := TX11) (N := 79) hx hb hts inB_11 hown hE.1 hP 0 rfl rfl 48 (by decide) (hts _ k_1368) (fun _ h9 => h9) rfl dX11_seen_11 ?_
    refine lv_if_eq (tgt := 33) hx hb dX11_seen_14 (by decide) (fun _ => ?_) (fun c0 => absurd (by decide) c0)
    refine lv_iconst (v := (-1)) hx hb dX11_seen_33 (by decide) ?_
    exact ret (-1) () _ _ _ _ _ _ rfl (pt_X11_seen_505 p1 p2 c1 c1) (hP.sub [] rfl) (hD.sub [] (by decide) rfl) hS dX11_seen_34 (Nat.le_of_ble_eq_true rfl) (Nat.le_of_ble_eq_true rfl)
  · skip
    refine caSi (n := 3) (wr := [(h0, .inr (11, mFs r mv0))]) (rest := []) hx hb hml hown hts hE hP hD hS hA (cnX11_isIn_11 l dC dI cy p1 c1) k_1736 k_1737 k_114 k_1738 (by decide +kernel) ⟨Nat.le_of_ble_eq_true rfl, Nat.le_of_ble_eq_true rfl⟩ [] [0] rfl rfl rfl (by decide) (by decide) (by decide) rfl hl.1 rfl (Nat.le_of_ble_eq_true rfl) dX11_seen_4 ⟨Nat.le_of_ble_eq_true rfl, Nat.le_of_ble_eq_true rfl⟩ (fun rr u H locs hw hP hD hS => ?_)
    have hP : va_P (dC, dI) vwCl [(h0, .inr (11, mFs r mv0))] H := hP
    have hD : va_D A [(h0, .inr (11, mFs r mv0))] := hD
    refine tI (y := 0) hw ?_
    refine lv_if_eq (tgt := 33) hx hb dX11_seen_7 (by decide) (fun _ => ?_) (fun c0 => absurd (by decide) c0)
    refine lv_iconst (v := (-1)) hx hb dX11_seen_33 (by decide) ?_
    exact ret (-1) () _ _ _ _ _ _ rfl (pt_X11_seen_506 p1 p2 c1) (hP.sub [] rfl) (hD.sub [] (by decide) rfl) hS dX11_seen_34 (Nat.le_of_ble_eq_true rfl) (Nat.le_of_ble_eq_true rfl)
theorem po_X8_takeBack_507 (p1 : Int32) (c1 : ¬ p1 < 0) : 0 ≤ p1 := by simp only [fa_lt, fa_le, fa_eq, tl_0] at *; omega
set_option maxHeartbeats 4000000 in
set_option maxRecDepth 100000 in
theorem cnX8_takeBack_1 (l : Launch) (dC : Nat → ClassId) (dI : Nat → Nat → Nat) (cy : Nat → ClassId) (h0 : Nat) (b0 : Nat) (b1 : Nat) (b2 : Nat) (b3 : Nat) (b4 : Nat) (b5 : Nat) (p1 : Int32) : ctI l (dC, dI) cy yX8_takeBack cX8_takeBack 3 .boolean 1 60 0 0 Unit [.ref h0, .int p1, .int 0] [(h0, .inr (8, [.ref b0, .ref b1, .ref b2, .ref b3, .ref b4, .int 0, .ref b5]))] (fun r _ => r = 0) (fun u => [(h0, .inr (8, [.ref b0, .ref b1, .ref b2, .ref b3, .ref b4, .int 0, .ref b5]))]) := by
  refine ctI_of (by decide) (Nat.le_of_ble_eq_true rfl) (fun p e s m below meth c A ls Q hx hb hml hts hown hE hP hD hA hl ret => ?_)
  have hown : s.vm.findClass RX8 = some m.cls := hown
  have hS : va_S A s.heap s.heap [] := va_S.rf
  have hl : lv_has ls 3 [(0, .ref h0), (1, .int p1), (2, .int 0)] := hl
  refine lv_iload_n hx hb dX8_takeBack_0 rfl (lv_at hl 1 rfl) ?_
  refine lv_if_lt (tgt := 28) hx hb dX8_takeBack_1 (by decide) (fun c1 => ?_) (fun c1 => ?_)
  · skip
    refine lv_iconst (v := 0) hx hb dX8_takeBack_28 (by decide) ?_
    exact ret 0 () _ _ _ _ _ _ rfl rfl (hP.sub [0] rfl) (hD.sub [0] (by decide) rfl) hS dX8_takeBack_29 (Nat.le_of_ble_eq_true rfl) (Nat.le_of_ble_eq_true rfl)
  · skip
    refine lv_iload_n hx hb dX8_takeBack_4 rfl (lv_at hl 1 rfl) ?_
    refine lv_aload_n hx hb dX8_takeBack_5 rfl (lv_at hl 0 rfl) ?_
    refine va_get (D := (dC, dI)) (ci := 8) (v := .int 0) (C := RX8) (T := TX8) (N := 7) hx hb hts inB_8 hown hE.1 hP 0 rfl rfl 5 (by decide) (hts _ k_472) (fun _ h9 => h9) rfl dX8_takeBack_6 ?_
    refine lv_icmp_ge (tgt := 28) hx hb dX8_takeBack_9 (by decide) (fun _ => ?_) (fun c0 => absurd (po_X8_takeBack_507 p1 c1) c0)
    refine lv_iconst (v := 0) hx hb dX8_takeBack_28 (by decide) ?_
    exact ret 0 () _ _ _ _ _ _ rfl rfl (hP.sub [0] rfl) (hD.sub [0] (by decide) rfl) hS dX8_takeBack_29 (Nat.le_of_ble_eq_true rfl) (Nat.le_of_ble_eq_true rfl)
theorem pt_X10_untell_508 (p1 : Int32) : (0 : Int32) = F_untell p1 := by
  unfold F_untell
  (repeat' split)
  all_goals first | rfl | assumption | (exfalso; simp only [fa_lt, fa_le, fa_eq, tl_0] at *; omega) | (simp only [fa_lt, fa_le, fa_eq, tl_0] at *; omega)
set_option maxHeartbeats 4000000 in
set_option maxRecDepth 100000 in
theorem cnX10_untell_1 (l : Launch) (dC : Nat → ClassId) (dI : Nat → Nat → Nat) (cy : Nat → ClassId) (h0 : Nat) (h1 : Nat) (b0 : Nat) (b1 : Nat) (b2 : Nat) (b3 : Nat) (b4 : Nat) (b5 : Nat) (b6 : Nat) (b7 : Nat) (b8 : Nat) (b9 : Nat) (b10 : Nat) (b11 : Nat) (b12 : Nat) (p1 : Int32) : ctI l (dC, dI) cy yX10_untell cX10_untell 2 .boolean 2 82 0 0 Unit [.ref h0, .int p1] [(h0, .inr (10, [.ref b0, .ref b1, .ref b2, .ref b3, .ref b4, .ref b5, .ref b6, .ref b7, .ref h1, .int 0])), (h1, .inr (8, [.ref b2, .ref b8, .ref b9, .ref b10, .ref b11, .int 0, .ref b12]))] (fun r _ => r = F_untell p1) (fun u => []) := by
  refine ctI_of (by decide) (Nat.le_of_ble_eq_true rfl) (fun p e s m below meth c A ls Q hx hb hml hts hown hE hP hD hA hl ret => ?_)
  have hown : s.vm.findClass RX10 = some m.cls := hown
  have hS : va_S A s.heap s.heap [] := va_S.rf
  have hl : lv_has ls 2 [(0, .ref h0), (1, .int p1)] := hl
  refine lv_aload_n hx hb dX10_untell_0 rfl (lv_at hl 0 rfl) ?_
  refine va_get (D := (dC, dI)) (ci := 10) (v := .ref h1) (C := RX10) (T := TX10) (N := 10) hx hb hts inB_10 hown hE.1 hP 0 rfl rfl 8 (by decide) (hts _ k_499) (fun _ h9 => h9) rfl dX10_untell_1 ?_
  refine lv_iload_n hx hb dX10_untell_4 rfl (lv_at hl 1 rfl) ?_
  refine lv_aload_n hx hb dX10_untell_5 rfl (lv_at hl 0 rfl) ?_
  refine va_get (D := (dC, dI)) (ci := 10) (v := .int 0) (C := RX10) (T := TX10) (N := 10) hx hb hts inB_10 hown hE.1 hP 0 rfl rfl 9 (by decide) (hts _ k_500) (fun _ h9 => h9) rfl dX10_untell_6 ?_
  refine caVi (n := 2) (wr := [(h0, .inr (10, [.ref b0, .ref b1, .ref b2, .ref b3, .ref b4, .ref b5, .ref b6, .ref b7, .ref h1, .int 0]))]) (rest := []) hx hb hml hown hts hE hP hD hS hA (cnX8_takeBack_1 l dC dI cy h1 b2 b8 b9 b10 b11 b12 p1) k_1234 k_1235 k_1236 k_112 k_1237 (by decide +kernel) ⟨Nat.le_of_ble_eq_true rfl, Nat.le_of_ble_eq_true rfl⟩ [1] [0] rfl rfl rfl (by decide) (by decide) (by decide) 0 8 rfl rfl rfl hl.1 rfl (Nat.le_of_ble_eq_true rfl) dX10_untell_9 ⟨Nat.le_of_ble_eq_true rfl, Nat.le_of_ble_eq_true rfl⟩ (fun rr u H locs hw hP hD hS => ?_)
  have hP : va_P (dC, dI) vwCl [(h0, .inr (10, [.ref b0, .ref b1, .ref b2, .ref b3, .ref b4, .ref b5, .ref b6, .ref b7, .ref h1, .int 0])), (h1, .inr (8, [.ref b2, .ref b8, .ref b9, .ref b10, .ref b11, .int 0, .ref b12]))] H := hP
  have hD : va_D A [(h0, .inr (10, [.ref b0, .ref b1, .ref b2, .ref b3, .ref b4, .ref b5, .ref b6, .ref b7, .ref h1, .int 0])), (h1, .inr (8, [.ref b2, .ref b8, .ref b9, .ref b10, .ref b11, .int 0, .ref b12]))] := hD
  refine tI (y := 0) hw ?_
  exact ret 0 () _ _ _ _ _ _ rfl (pt_X10_untell_508 p1) (hP.sub [] rfl) (hD.sub [] (by decide) rfl) hS dX10_untell_12 (Nat.le_of_ble_eq_true rfl) (Nat.le_of_ble_eq_true rfl)
theorem pt_X11_untell_509 (p1 : Int32) : (0 : Int32) = F_untell p1 := by
  unfold F_untell
  (repeat' split)
  all_goals first | rfl | assumption | (exfalso; simp only [fa_lt, fa_le, fa_eq, tl_0] at *; omega) | (simp only [fa_lt, fa_le, fa_eq, tl_0] at *; omega)
set_option maxHeartbeats 4000000 in
set_option maxRecDepth 100000 in
theorem cnX11_untell_1 (l : Launch) (dC : Nat → ClassId) (dI : Nat → Nat → Nat) (cy : Nat → ClassId) (h0 : Nat) (r : Nat → Nat) (p1 : Int32) : ctI l (dC, dI) cy yX11_untell cX11_untell 2 .boolean 2 82 0 0 Unit [.ref h0, .int p1] [(h0, .inr (11, mFs r mv0))] (fun r _ => r = F_untell p1) (fun u => []) := by
  refine ctI_of (by decide) (Nat.le_of_ble_eq_true rfl) (fun p e s m below meth c A ls Q hx hb hml hts hown hE hP hD hA hl ret => ?_)
  have hown : s.vm.findClass RX11 = some m.cls := hown
  have hS : va_S A s.heap s.heap [] := va_S.rf
  have hl : lv_has ls 2 [(0, .ref h0), (1, .int p1)] := hl
  refine lv_iload_n hx hb dX11_untell_0 rfl (lv_at hl 1 rfl) ?_
  refine lv_iconst (v := 0) hx hb dX11_untell_1 (by decide) ?_
  refine lv_aload_n hx hb dX11_untell_2 rfl (lv_at hl 0 rfl) ?_
  refine va_get (D := (dC, dI)) (ci := 11) (v := .int 0) (C := RX11) (T := TX11) (N := 79) hx hb hts inB_11 hown hE.1 hP 0 rfl rfl 73 (by decide) (hts _ k_1393) (fun _ h9 => h9) rfl dX11_untell_3 ?_
  refine lv_iconst (v := 1) hx hb dX11_untell_6 (by decide) ?_
  refine lv_isub hx hb dX11_untell_7 ?_
  refine tI (y := (-1)) (by decide) ?_
  refine caSi (n := 3) (wr := [(h0, .inr (11, mFs r mv0))]) (rest := []) hx hb hml hown hts hE hP hD hS hA (cnX11_isIn_1 l dC dI cy p1) k_1736 k_1737 k_114 k_1738 (by decide +kernel) ⟨Nat.le_of_ble_eq_true rfl, Nat.le_of_ble_eq_true rfl⟩ [] [0] rfl rfl rfl (by decide) (by decide) (by decide) rfl hl.1 rfl (Nat.le_of_ble_eq_true rfl) dX11_untell_8 ⟨Nat.le_of_ble_eq_true rfl, Nat.le_of_ble_eq_true rfl⟩ (fun rr u H locs hw hP hD hS => ?_)
  have hP : va_P (dC, dI) vwCl [(h0, .inr (11, mFs r mv0))] H := hP
  have hD : va_D A [(h0, .inr (11, mFs r mv0))] := hD
  refine tI (y := 0) hw ?_
  refine lv_if_eq (tgt := 23) hx hb dX11_untell_11 (by decide) (fun _ => ?_) (fun c0 => absurd (by decide) c0)
  refine lv_iconst (v := 0) hx hb dX11_untell_23 (by decide) ?_
  exact ret 0 () _ _ _ _ _ _ rfl (pt_X11_untell_509 p1) (hP.sub [] rfl) (hD.sub [] (by decide) rfl) hS dX11_untell_24 (Nat.le_of_ble_eq_true rfl) (Nat.le_of_ble_eq_true rfl)
theorem pt_X10_later_510 (p1 : Int32) (c1 : p1 < 0) : ((-1) : Int32) = F_later p1 := by
  unfold F_later
  (repeat' split)
  all_goals first | rfl | assumption | (exfalso; simp only [fa_lt, fa_le, fa_eq, tl_m1, tl_0, tl_1000] at *; omega) | (simp only [fa_lt, fa_le, fa_eq, tl_m1, tl_0, tl_1000] at *; omega)
theorem pt_X10_later_511 (p1 : Int32) (c1 : ¬ p1 < 0) (c2 : 1000 < p1) : ((-1) : Int32) = F_later p1 := by
  unfold F_later
  (repeat' split)
  all_goals first | rfl | assumption | (exfalso; simp only [fa_lt, fa_le, fa_eq, tl_m1, tl_0, tl_1000] at *; omega) | (simp only [fa_lt, fa_le, fa_eq, tl_m1, tl_0, tl_1000] at *; omega)
theorem po_X10_later_512 (p1 : Int32) (c1 : ¬ p1 < 0) (c2 : ¬ 1000 < p1) : p1 ≤ 100000 := by simp only [fa_lt, fa_le, fa_eq, tl_0, tl_1000, tl_100000] at *; omega
theorem pt_X10_later_513 (p1 : Int32) (c1 : ¬ p1 < 0) (c2 : ¬ 1000 < p1) : (p1 : Int32) = F_later p1 := by
  unfold F_later
  (repeat' split)
  all_goals first | rfl | assumption | (exfalso; simp only [fa_lt, fa_le, fa_eq, tl_m1, tl_0, tl_1000] at *; omega) | (simp only [fa_lt, fa_le, fa_eq, tl_m1, tl_0, tl_1000] at *; omega)
set_option maxHeartbeats 4000000 in
set_option maxRecDepth 100000 in
theorem cnX10_later_1 (l : Launch) (dC : Nat → ClassId) (dI : Nat → Nat → Nat) (cy : Nat → ClassId) (h0 : Nat) (b0 : Nat) (b1 : Nat) (b2 : Nat) (b3 : Nat) (b4 : Nat) (b5 : Nat) (b6 : Nat) (b7 : Nat) (b8 : Nat) (p1 : Int32) : ctI l (dC, dI) cy yX10_later cX10_later 2 .int 1 60 0 0 Unit [.ref h0, .int p1] [(h0, .inr (10, [.ref b0, .ref b1, .ref b2, .ref b3, .ref b4, .ref b5, .ref b6, .ref b7, .ref b8, .int 0]))] (fun r _ => r = F_later p1) (fun u => []) := by
  refine ctI_of (by decide) (Nat.le_of_ble_eq_true rfl) (fun p e s m below meth c A ls Q hx hb hml hts hown hE hP hD hA hl ret => ?_)
  have hown : s.vm.findClass RX10 = some m.cls := hown
  have hS : va_S A s.heap s.heap [] := va_S.rf
  have hl : lv_has ls 2 [(0, .ref h0), (1, .int p1)] := hl
  refine lv_iload_n hx hb dX10_later_0 rfl (lv_at hl 1 rfl) ?_
  refine lv_if_lt (tgt := 23) hx hb dX10_later_1 (by decide) (fun c1 => ?_) (fun c1 => ?_)
  · skip
    refine lv_iconst (v := (-1)) hx hb dX10_later_23 (by decide) ?_
    exact ret (-1) () _ _ _ _ _ _ rfl (pt_X10_later_510 p1 c1) (hP.sub [] rfl) (hD.sub [] (by decide) rfl) hS dX10_later_24 (Nat.le_of_ble_eq_true rfl) (Nat.le_of_ble_eq_true rfl)
  · skip
    refine lv_iload_n hx hb dX10_later_4 rfl (lv_at hl 1 rfl) ?_
    refine lv_sipush (v := 1000) hx hb dX10_later_5 (by decide) ?_
    refine lv_icmp_gt (tgt := 23) hx hb dX10_later_8 (by decide) (fun c2 => ?_) (fun c2 => ?_)
    · skip
      refine lv_iconst (v := (-1)) hx hb dX10_later_23 (by decide) ?_
      exact ret (-1) () _ _ _ _ _ _ rfl (pt_X10_later_511 p1 c1 c2) (hP.sub [] rfl) (hD.sub [] (by decide) rfl) hS dX10_later_24 (Nat.le_of_ble_eq_true rfl) (Nat.le_of_ble_eq_true rfl)
    · skip
      refine lv_aload_n hx hb dX10_later_11 rfl (lv_at hl 0 rfl) ?_
      refine va_get (D := (dC, dI)) (ci := 10) (v := .int 0) (C := RX10) (T := TX10) (N := 10) hx hb hts inB_10 hown hE.1 hP 0 rfl rfl 9 (by decide) (hts _ k_500) (fun _ h9 => h9) rfl dX10_later_12 ?_
      refine lv_iload_n hx hb dX10_later_15 rfl (lv_at hl 1 rfl) ?_
      refine lv_iadd hx hb dX10_later_16 ?_
      refine tI (y := p1) (Int32.zero_add _) ?_
      refine lv_ldcw (v := 100000) hx hb hown (hts _ k_1242) dX10_later_17 ?_
      refine lv_icmp_le (tgt := 25) hx hb dX10_later_20 (by decide) (fun _ => ?_) (fun c0 => absurd (po_X10_later_512 p1 c1 c2) c0)
      refine lv_aload_n hx hb dX10_later_25 rfl (lv_at hl 0 rfl) ?_
      refine lv_dup hx hb dX10_later_26 rfl ?_
      refine va_get (D := (dC, dI)) (ci := 10) (v := .int 0) (C := RX10) (T := TX10) (N := 10) hx hb hts inB_10 hown hE.1 hP 0 rfl rfl 9 (by decide) (hts _ k_500) (fun _ h9 => h9) rfl dX10_later_27 ?_
      refine lv_iload_n hx hb dX10_later_30 rfl (lv_at hl 1 rfl) ?_
      refine lv_iadd hx hb dX10_later_31 ?_
      refine tI (y := p1) (Int32.zero_add _) ?_
      refine va_put (D := (dC, dI)) (ci := 10) (v := .int p1) (ty := tyX10 9) (C := RX10) (T := TX10) (N := 10) hx hb hts inB_10 tyX10 tyX10_ok nmX10 hown hE.1 hP hD hS 0 rfl rfl 9 (by decide) (hts _ k_500) (fun _ h9 => h9) rfl (tyX10_ok 9 (by decide)) rfl rfl (Nat.le_of_ble_eq_true rfl) dX10_later_32 (fun H locs hP hD hS => ?_)
      have hP : va_P (dC, dI) vwCl [(h0, .inr (10, [.ref b0, .ref b1, .ref b2, .ref b3, .ref b4, .ref b5, .ref b6, .ref b7, .ref b8, .int p1]))] H := hP
      have hD : va_D A [(h0, .inr (10, [.ref b0, .ref b1, .ref b2, .ref b3, .ref b4, .ref b5, .ref b6, .ref b7, .ref b8, .int p1]))] := hD
      refine lv_aload_n hx hb dX10_later_35 rfl (lv_at hl 0 rfl) ?_
      refine va_get (D := (dC, dI)) (ci := 10) (v := .int p1) (C := RX10) (T := TX10) (N := 10) hx hb hts inB_10 hown hE.1 hP 0 rfl rfl 9 (by decide) (hts _ k_500) (fun _ h9 => h9) rfl dX10_later_36 ?_
      exact ret p1 () _ _ _ _ _ _ rfl (pt_X10_later_513 p1 c1 c2) (hP.sub [] rfl) (hD.sub [] (by decide) rfl) hS dX10_later_39 (Nat.le_of_ble_eq_true rfl) (Nat.le_of_ble_eq_true rfl)
theorem pt_X11_later_514 (p1 : Int32) (c1 : p1 < 0) : ((-1) : Int32) = F_later p1 := by
  unfold F_later
  (repeat' split)
  all_goals first | rfl | assumption | (exfalso; simp only [fa_lt, fa_le, fa_eq, tl_m1, tl_0, tl_1000] at *; omega) | (simp only [fa_lt, fa_le, fa_eq, tl_m1, tl_0, tl_1000] at *; omega)
theorem pt_X11_later_515 (p1 : Int32) (c1 : ¬ p1 < 0) (c2 : 1000 < p1) : ((-1) : Int32) = F_later p1 := by
  unfold F_later
  (repeat' split)
  all_goals first | rfl | assumption | (exfalso; simp only [fa_lt, fa_le, fa_eq, tl_m1, tl_0, tl_1000] at *; omega) | (simp only [fa_lt, fa_le, fa_eq, tl_m1, tl_0, tl_1000] at *; omega)
theorem po_X11_later_516 (p1 : Int32) (c1 : ¬ p1 < 0) (c2 : ¬ 1000 < p1) : p1 ≤ 100000 := by simp only [fa_lt, fa_le, fa_eq, tl_0, tl_1000, tl_100000] at *; omega
theorem pt_X11_later_517 (p1 : Int32) (c1 : ¬ p1 < 0) (c2 : ¬ 1000 < p1) : (p1 : Int32) = F_later p1 := by
  unfold F_later
  (repeat' split)
  all_goals first | rfl | assumption | (exfalso; simp only [fa_lt, fa_le, fa_eq, tl_m1, tl_0, tl_1000] at *; omega) | (simp only [fa_lt, fa_le, fa_eq, tl_m1, tl_0, tl_1000] at *; omega)
set_option maxHeartbeats 4000000 in
set_option maxRecDepth 100000 in
theorem cnX11_later_1 (l : Launch) (dC : Nat → ClassId) (dI : Nat → Nat → Nat) (cy : Nat → ClassId) (h0 : Nat) (r : Nat → Nat) (p1 : Int32) : ctI l (dC, dI) cy yX11_later cX11_later 2 .int 1 60 0 0 Unit [.ref h0, .int p1] [(h0, .inr (11, mFs r mv0))] (fun r _ => r = F_later p1) (fun u => []) := by
  refine ctI_of (by decide) (Nat.le_of_ble_eq_true rfl) (fun p e s m below meth c A ls Q hx hb hml hts hown hE hP hD hA hl ret => ?_)
  have hown : s.vm.findClass RX11 = some m.cls := hown
  have hS : va_S A s.heap s.heap [] := va_S.rf
  have hl : lv_has ls 2 [(0, .ref h0), (1, .int p1)] := hl
  refine lv_iload_n hx hb dX11_later_0 rfl (lv_at hl 1 rfl) ?_
  refine lv_if_lt (tgt := 23) hx hb dX11_later_1 (by decide) (fun c1 => ?_) (fun c1 => ?_)
  · skip
    refine lv_iconst (v := (-1)) hx hb dX11_later_23 (by decide) ?_
    exact ret (-1) () _ _ _ _ _ _ rfl (pt_X11_later_514 p1 c1) (hP.sub [] rfl) (hD.sub [] (by decide) rfl) hS dX11_later_24 (Nat.le_of_ble_eq_true rfl) (Nat.le_of_ble_eq_true rfl)
  · skip
    refine lv_iload_n hx hb dX11_later_4 rfl (lv_at hl 1 rfl) ?_
    refine lv_sipush (v := 1000) hx hb dX11_later_5 (by decide) ?_
    refine lv_icmp_gt (tgt := 23) hx hb dX11_later_8 (by decide) (fun c2 => ?_) (fun c2 => ?_)
    · skip
      refine lv_iconst (v := (-1)) hx hb dX11_later_23 (by decide) ?_
      exact ret (-1) () _ _ _ _ _ _ rfl (pt_X11_later_515 p1 c1 c2) (hP.sub [] rfl) (hD.sub [] (by decide) rfl) hS dX11_later_24 (Nat.le_of_ble_eq_true rfl) (Nat.le_of_ble_eq_true rfl)
    · skip
      refine lv_aload_n hx hb dX11_later_11 rfl (lv_at hl 0 rfl) ?_
      refine va_get (D := (dC, dI)) (ci := 11) (v := .int 0) (C := RX11) (T := TX11) (N := 79) hx hb hts inB_11 hown hE.1 hP 0 rfl rfl 74 (by decide) (hts _ k_1394) (fun _ h9 => h9) rfl dX11_later_12 ?_
      refine lv_iload_n hx hb dX11_later_15 rfl (lv_at hl 1 rfl) ?_
      refine lv_iadd hx hb dX11_later_16 ?_
      refine tI (y := p1) (Int32.zero_add _) ?_
      refine lv_ldcw (v := 100000) hx hb hown (hts _ k_2019) dX11_later_17 ?_
      refine lv_icmp_le (tgt := 25) hx hb dX11_later_20 (by decide) (fun _ => ?_) (fun c0 => absurd (po_X11_later_516 p1 c1 c2) c0)
      refine lv_aload_n hx hb dX11_later_25 rfl (lv_at hl 0 rfl) ?_
      refine lv_dup hx hb dX11_later_26 rfl ?_
      refine va_get (D := (dC, dI)) (ci := 11) (v := .int 0) (C := RX11) (T := TX11) (N := 79) hx hb hts inB_11 hown hE.1 hP 0 rfl rfl 74 (by decide) (hts _ k_1394) (fun _ h9 => h9) rfl dX11_later_27 ?_
      refine lv_iload_n hx hb dX11_later_30 rfl (lv_at hl 1 rfl) ?_
      refine lv_iadd hx hb dX11_later_31 ?_
      refine tI (y := p1) (Int32.zero_add _) ?_
      refine va_put (D := (dC, dI)) (ci := 11) (v := .int p1) (ty := tyX11 74) (C := RX11) (T := TX11) (N := 79) hx hb hts inB_11 tyX11 tyX11_ok nmX11 hown hE.1 hP hD hS 0 rfl rfl 74 (by decide) (hts _ k_1394) (fun _ h9 => h9) rfl (tyX11_ok 74 (by decide)) rfl rfl (Nat.le_of_ble_eq_true rfl) dX11_later_32 (fun H locs hP hD hS => ?_)
      have hP : va_P (dC, dI) vwCl [(h0, .inr (11, mFs r (upd mv0 74 p1)))] H := hP
      have hD : va_D A [(h0, .inr (11, mFs r (upd mv0 74 p1)))] := hD
      refine lv_aload_n hx hb dX11_later_35 rfl (lv_at hl 0 rfl) ?_
      refine va_get (D := (dC, dI)) (ci := 11) (v := .int p1) (C := RX11) (T := TX11) (N := 79) hx hb hts inB_11 hown hE.1 hP 0 rfl rfl 74 (by decide) (hts _ k_1394) (fun _ h9 => h9) rfl dX11_later_36 ?_
      exact ret p1 () _ _ _ _ _ _ rfl (pt_X11_later_517 p1 c1 c2) (hP.sub [] rfl) (hD.sub [] (by decide) rfl) hS dX11_later_39 (Nat.le_of_ble_eq_true rfl) (Nat.le_of_ble_eq_true rfl)
set_option maxHeartbeats 4000000 in
set_option maxRecDepth 100000 in
theorem cnX8_growthsAt_1 (l : Launch) (dC : Nat → ClassId) (dI : Nat → Nat → Nat) (cy : Nat → ClassId) (h0 : Nat) (h1 : Nat) (b0 : Nat) (b1 : Nat) (b2 : Nat) (b3 : Nat) (b4 : Nat) (b5 : Nat) (b6 : Nat) (b7 : Nat) (p1 : Int32) : ctI l (dC, dI) cy yX8_growthsAt cX8_growthsAt 6 .int 1 60 0 0 Unit [.ref h0, .int p1] [(h0, .inr (8, [.ref h1, .ref b0, .ref b1, .ref b2, .ref b3, .int 0, .ref b4])), (h1, .inr (7, [.ref b5, .ref b6, .ref b7, .int 0, .int 0, .int 10, .int 150, .int 2, .int 0, .int 0]))] (fun r _ => r = 0) (fun u => [(h0, .inr (8, [.ref h1, .ref b0, .ref b1, .ref b2, .ref b3, .int 0, .ref b4])), (h1, .inr (7, [.ref b5, .ref b6, .ref b7, .int 0, .int 0, .int 10, .int 150, .int 2, .int 0, .int 0]))]) := by
  refine ctI_of (by decide) (Nat.le_of_ble_eq_true rfl) (fun p e s m below meth c A ls Q hx hb hml hts hown hE hP hD hA hl ret => ?_)
  have hown : s.vm.findClass RX8 = some m.cls := hown
  have hS : va_S A s.heap s.heap [] := va_S.rf
  have hl : lv_has ls 6 [(0, .ref h0), (1, .int p1)] := hl
  refine lv_aload_n hx hb dX8_growthsAt_0 rfl (lv_at hl 0 rfl) ?_
  refine va_get (D := (dC, dI)) (ci := 8) (v := .ref h1) (C := RX8) (T := TX8) (N := 7) hx hb hts inB_8 hown hE.1 hP 0 rfl rfl 0 (by decide) (hts _ k_467) (fun _ h9 => h9) rfl dX8_growthsAt_1 ?_
  refine va_getN (D := (dC, dI)) (ci := 7) (v := .int 0) (C := RX7) (T := TX7) (N := 10) hx hb hts inB_7 hown hE.1 hP 1 rfl rfl 3 (by decide) (va_Nw.use rfl (hE.2 _ k_215)) (fun _ h9 => h9) rfl dX8_growthsAt_4 ?_
  refine lv_if_eq (tgt := 20) hx hb dX8_growthsAt_7 (by decide) (fun _ => ?_) (fun c0 => absurd (by decide) c0)
  refine lv_iconst (v := 0) hx hb dX8_growthsAt_20 (by decide) ?_
  exact ret 0 () _ _ _ _ _ _ rfl rfl (hP.sub [0, 1] rfl) (hD.sub [0, 1] (by decide) rfl) hS dX8_growthsAt_21 (Nat.le_of_ble_eq_true rfl) (Nat.le_of_ble_eq_true rfl)
theorem pt_X10_growths_518 (p1 : Int32) : (0 : Int32) = F_growths p1 := by
  unfold F_growths
  (repeat' split)
  all_goals first | rfl | assumption | (exfalso; simp only [fa_lt, fa_le, fa_eq, tl_0] at *; omega) | (simp only [fa_lt, fa_le, fa_eq, tl_0] at *; omega)
set_option maxHeartbeats 4000000 in
set_option maxRecDepth 100000 in
theorem cnX10_growths_1 (l : Launch) (dC : Nat → ClassId) (dI : Nat → Nat → Nat) (cy : Nat → ClassId) (h0 : Nat) (h1 : Nat) (h2 : Nat) (b0 : Nat) (b1 : Nat) (b2 : Nat) (b3 : Nat) (b4 : Nat) (b5 : Nat) (b6 : Nat) (b7 : Nat) (b8 : Nat) (b9 : Nat) (b10 : Nat) (b11 : Nat) (b12 : Nat) (b13 : Nat) (b14 : Nat) (p1 : Int32) : ctI l (dC, dI) cy yX10_growths cX10_growths 2 .int 2 85 0 0 Unit [.ref h0, .int p1] [(h0, .inr (10, [.ref b0, .ref b1, .ref h2, .ref b2, .ref b3, .ref b4, .ref b5, .ref b6, .ref h1, .int 0])), (h1, .inr (8, [.ref h2, .ref b7, .ref b8, .ref b9, .ref b10, .int 0, .ref b11])), (h2, .inr (7, [.ref b12, .ref b13, .ref b14, .int 0, .int 0, .int 10, .int 150, .int 2, .int 0, .int 0]))] (fun r _ => r = F_growths p1) (fun u => []) := by
  refine ctI_of (by decide) (Nat.le_of_ble_eq_true rfl) (fun p e s m below meth c A ls Q hx hb hml hts hown hE hP hD hA hl ret => ?_)
  have hown : s.vm.findClass RX10 = some m.cls := hown
  have hS : va_S A s.heap s.heap [] := va_S.rf
  have hl : lv_has ls 2 [(0, .ref h0), (1, .int p1)] := hl
  refine lv_aload_n hx hb dX10_growths_0 rfl (lv_at hl 0 rfl) ?_
  refine va_get (D := (dC, dI)) (ci := 10) (v := .ref h1) (C := RX10) (T := TX10) (N := 10) hx hb hts inB_10 hown hE.1 hP 0 rfl rfl 8 (by decide) (hts _ k_499) (fun _ h9 => h9) rfl dX10_growths_1 ?_
  refine lv_iload_n hx hb dX10_growths_4 rfl (lv_at hl 1 rfl) ?_
  refine caVi (n := 1) (wr := [(h0, .inr (10, [.ref b0, .ref b1, .ref h2, .ref b2, .ref b3, .ref b4, .ref b5, .ref b6, .ref h1, .int 0]))]) (rest := []) hx hb hml hown hts hE hP hD hS hA (cnX8_growthsAt_1 l dC dI cy h1 h2 b7 b8 b9 b10 b11 b12 b13 b14 p1) k_1247 k_1248 k_1249 k_112 k_1250 (by decide +kernel) ⟨Nat.le_of_ble_eq_true rfl, Nat.le_of_ble_eq_true rfl⟩ [1, 2] [0] rfl rfl rfl (by decide) (by decide) (by decide) 0 8 rfl rfl rfl hl.1 rfl (Nat.le_of_ble_eq_true rfl) dX10_growths_5 ⟨Nat.le_of_ble_eq_true rfl, Nat.le_of_ble_eq_true rfl⟩ (fun rr u H locs hw hP hD hS => ?_)
  have hP : va_P (dC, dI) vwCl [(h0, .inr (10, [.ref b0, .ref b1, .ref h2, .ref b2, .ref b3, .ref b4, .ref b5, .ref b6, .ref h1, .int 0])), (h1, .inr (8, [.ref h2, .ref b7, .ref b8, .ref b9, .ref b10, .int 0, .ref b11])), (h2, .inr (7, [.ref b12, .ref b13, .ref b14, .int 0, .int 0, .int 10, .int 150, .int 2, .int 0, .int 0]))] H := hP
  have hD : va_D A [(h0, .inr (10, [.ref b0, .ref b1, .ref h2, .ref b2, .ref b3, .ref b4, .ref b5, .ref b6, .ref h1, .int 0])), (h1, .inr (8, [.ref h2, .ref b7, .ref b8, .ref b9, .ref b10, .int 0, .ref b11])), (h2, .inr (7, [.ref b12, .ref b13, .ref b14, .int 0, .int 0, .int 10, .int 150, .int 2, .int 0, .int 0]))] := hD
  refine tI (y := 0) hw ?_
  refine caSi (n := 1) (wr := [(h0, .inr (10, [.ref b0, .ref b1, .ref h2, .ref b2, .ref b3, .ref b4, .ref b5, .ref b6, .ref h1, .int 0])), (h1, .inr (8, [.ref h2, .ref b7, .ref b8, .ref b9, .ref b10, .int 0, .ref b11])), (h2, .inr (7, [.ref b12, .ref b13, .ref b14, .int 0, .int 0, .int 10, .int 150, .int 2, .int 0, .int 0]))]) (rest := []) hx hb hml hown hts hE hP hD hS hA (cnJ6_bitCount_0f7a4_1 l dC dI cy ) k_1071 k_1043 k_121 k_1044 (by decide +kernel) ⟨Nat.le_of_ble_eq_true rfl, Nat.le_of_ble_eq_true rfl⟩ [] [0, 1, 2] rfl rfl rfl (by decide) (by decide) (by decide) rfl hl.1 rfl (Nat.le_of_ble_eq_true rfl) dX10_growths_8 ⟨Nat.le_of_ble_eq_true rfl, Nat.le_of_ble_eq_true rfl⟩ (fun rr u H locs hw hP hD hS => ?_)
  have hP : va_P (dC, dI) vwCl [(h0, .inr (10, [.ref b0, .ref b1, .ref h2, .ref b2, .ref b3, .ref b4, .ref b5, .ref b6, .ref h1, .int 0])), (h1, .inr (8, [.ref h2, .ref b7, .ref b8, .ref b9, .ref b10, .int 0, .ref b11])), (h2, .inr (7, [.ref b12, .ref b13, .ref b14, .int 0, .int 0, .int 10, .int 150, .int 2, .int 0, .int 0]))] H := hP
  have hD : va_D A [(h0, .inr (10, [.ref b0, .ref b1, .ref h2, .ref b2, .ref b3, .ref b4, .ref b5, .ref b6, .ref h1, .int 0])), (h1, .inr (8, [.ref h2, .ref b7, .ref b8, .ref b9, .ref b10, .int 0, .ref b11])), (h2, .inr (7, [.ref b12, .ref b13, .ref b14, .int 0, .int 0, .int 10, .int 150, .int 2, .int 0, .int 0]))] := hD
  refine tI (y := 0) hw ?_
  exact ret 0 () _ _ _ _ _ _ rfl (pt_X10_growths_518 p1) (hP.sub [] rfl) (hD.sub [] (by decide) rfl) hS dX10_growths_11 (Nat.le_of_ble_eq_true rfl) (Nat.le_of_ble_eq_true rfl)
set_option maxHeartbeats 4000000 in
set_option maxRecDepth 100000 in
theorem cnX11_layGrowths_1 (l : Launch) (dC : Nat → ClassId) (dI : Nat → Nat → Nat) (cy : Nat → ClassId) (h0 : Nat) (r : Nat → Nat) (p1 : Int32) : ctI l (dC, dI) cy yX11_layGrowths cX11_layGrowths 5 .int 1 60 0 0 Unit [.ref h0, .int p1] [(h0, .inr (11, mFs r mv0))] (fun r _ => r = 0) (fun u => [(h0, .inr (11, mFs r mv0))]) := by
  refine ctI_of (by decide) (Nat.le_of_ble_eq_true rfl) (fun p e s m below meth c A ls Q hx hb hml hts hown hE hP hD hA hl ret => ?_)
  have hown : s.vm.findClass RX11 = some m.cls := hown
  have hS : va_S A s.heap s.heap [] := va_S.rf
  have hl : lv_has ls 5 [(0, .ref h0), (1, .int p1)] := hl
  refine lv_iconst (v := 0) hx hb dX11_layGrowths_0 (by decide) ?_
  refine lv_istore_n (lv' := [(2, .int 0), (0, .ref h0), (1, .int p1)]) hx hb dX11_layGrowths_1 rfl hl (by decide) rfl (fun ls hl => ?_)
  refine lv_iconst (v := 0) hx hb dX11_layGrowths_2 (by decide) ?_
  refine lv_istore_n (lv' := [(3, .int 0), (2, .int 0), (0, .ref h0), (1, .int p1)]) hx hb dX11_layGrowths_3 rfl hl (by decide) rfl (fun ls hl => ?_)
  refine lv_iload_n hx hb dX11_layGrowths_4 rfl (lv_at hl 0 rfl) ?_
  refine lv_bipush (v := 30) hx hb dX11_layGrowths_5 (by decide) ?_
  refine lv_icmp_gt (tgt := 143) hx hb dX11_layGrowths_7 (by decide) (fun c0 => absurd c0 (by decide)) (fun _ => ?_)
  refine lv_aload_n hx hb dX11_layGrowths_10 rfl (lv_at hl 2 rfl) ?_
  refine va_get (D := (dC, dI)) (ci := 11) (v := .int 0) (C := RX11) (T := TX11) (N := 79) hx hb hts inB_11 hown hE.1 hP 0 rfl rfl 48 (by decide) (hts _ k_1368) (fun _ h9 => h9) rfl dX11_layGrowths_11 ?_
  refine lv_if_le (tgt := 143) hx hb dX11_layGrowths_14 (by decide) (fun _ => ?_) (fun c0 => absurd (by decide) c0)
  refine lv_iload_n hx hb dX11_layGrowths_143 rfl (lv_at hl 1 rfl) ?_
  exact ret 0 () _ _ _ _ _ _ rfl rfl (hP.sub [0] rfl) (hD.sub [0] (by decide) rfl) hS dX11_layGrowths_144 (Nat.le_of_ble_eq_true rfl) (Nat.le_of_ble_eq_true rfl)
theorem pt_X11_growths_519 (p1 : Int32) : (0 : Int32) = F_growths p1 := by
  unfold F_growths
  (repeat' split)
  all_goals first | rfl | assumption | (exfalso; simp only [fa_lt, fa_le, fa_eq, tl_0] at *; omega) | (simp only [fa_lt, fa_le, fa_eq, tl_0] at *; omega)
set_option maxHeartbeats 4000000 in
set_option maxRecDepth 100000 in
theorem cnX11_growths_1 (l : Launch) (dC : Nat → ClassId) (dI : Nat → Nat → Nat) (cy : Nat → ClassId) (h0 : Nat) (r : Nat → Nat) (p1 : Int32) : ctI l (dC, dI) cy yX11_growths cX11_growths 2 .int 2 84 0 0 Unit [.ref h0, .int p1] [(h0, .inr (11, mFs r mv0))] (fun r _ => r = F_growths p1) (fun u => []) := by
  refine ctI_of (by decide) (Nat.le_of_ble_eq_true rfl) (fun p e s m below meth c A ls Q hx hb hml hts hown hE hP hD hA hl ret => ?_)
  have hown : s.vm.findClass RX11 = some m.cls := hown
  have hS : va_S A s.heap s.heap [] := va_S.rf
  have hl : lv_has ls 2 [(0, .ref h0), (1, .int p1)] := hl
  refine lv_aload_n hx hb dX11_growths_0 rfl (lv_at hl 0 rfl) ?_
  refine lv_iload_n hx hb dX11_growths_1 rfl (lv_at hl 1 rfl) ?_
  refine caVi (n := 1) (wr := []) (rest := []) hx hb hml hown hts hE hP hD hS hA (cnX11_layGrowths_1 l dC dI cy h0 r p1) k_2024 k_2026 k_97 k_114 k_2027 (by decide +kernel) ⟨Nat.le_of_ble_eq_true rfl, Nat.le_of_ble_eq_true rfl⟩ [0] [] rfl rfl rfl (by decide) (by decide) (by decide) 0 11 rfl rfl rfl hl.1 rfl (Nat.le_of_ble_eq_true rfl) dX11_growths_2 ⟨Nat.le_of_ble_eq_true rfl, Nat.le_of_ble_eq_true rfl⟩ (fun rr u H locs hw hP hD hS => ?_)
  have hP : va_P (dC, dI) vwCl [(h0, .inr (11, mFs r mv0))] H := hP
  have hD : va_D A [(h0, .inr (11, mFs r mv0))] := hD
  refine tI (y := 0) hw ?_
  exact ret 0 () _ _ _ _ _ _ rfl (pt_X11_growths_519 p1) (hP.sub [] rfl) (hD.sub [] (by decide) rfl) hS dX11_growths_5 (Nat.le_of_ble_eq_true rfl) (Nat.le_of_ble_eq_true rfl)
theorem pt_X10_sure_520 (p1 : Int32) (p2 : Int32) : ((-1) : Int32) = F_sure p1 p2 := by
  unfold F_sure
  (repeat' split)
  all_goals first | rfl | assumption | (exfalso; simp only [fa_lt, fa_le, fa_eq, tl_m1] at *; omega) | (simp only [fa_lt, fa_le, fa_eq, tl_m1] at *; omega)
set_option maxHeartbeats 4000000 in
set_option maxRecDepth 100000 in
theorem cnX10_sure_1 (l : Launch) (dC : Nat → ClassId) (dI : Nat → Nat → Nat) (cy : Nat → ClassId) (h0 : Nat) (h1 : Nat) (h2 : Nat) (b0 : Nat) (b1 : Nat) (b2 : Nat) (b3 : Nat) (b4 : Nat) (b5 : Nat) (b6 : Nat) (b7 : Nat) (b8 : Nat) (b9 : Nat) (b10 : Nat) (b11 : Nat) (b12 : Nat) (b13 : Nat) (b14 : Nat) (p1 : Int32) (p2 : Int32) : ctI l (dC, dI) cy yX10_sure cX10_sure 4 .int 2 85 0 0 Unit [.ref h0, .int p1, .int p2] [(h0, .inr (10, [.ref b0, .ref b1, .ref h2, .ref b2, .ref b3, .ref b4, .ref b5, .ref b6, .ref h1, .int 0])), (h1, .inr (8, [.ref h2, .ref b7, .ref b8, .ref b9, .ref b10, .int 0, .ref b11])), (h2, .inr (7, [.ref b12, .ref b13, .ref b14, .int 0, .int 0, .int 10, .int 150, .int 2, .int 0, .int 0]))] (fun r _ => r = F_sure p1 p2) (fun u => []) := by
  refine ctI_of (by decide) (Nat.le_of_ble_eq_true rfl) (fun p e s m below meth c A ls Q hx hb hml hts hown hE hP hD hA hl ret => ?_)
  have hown : s.vm.findClass RX10 = some m.cls := hown
  have hS : va_S A s.heap s.heap [] := va_S.rf
  have hl : lv_has ls 4 [(0, .ref h0), (1, .int p1), (2, .int p2)] := hl
  refine lv_aload_n hx hb dX10_sure_0 rfl (lv_at hl 0 rfl) ?_
  refine va_get (D := (dC, dI)) (ci := 10) (v := .ref h1) (C := RX10) (T := TX10) (N := 10) hx hb hts inB_10 hown hE.1 hP 0 rfl rfl 8 (by decide) (hts _ k_499) (fun _ h9 => h9) rfl dX10_sure_1 ?_
  refine lv_iload_n hx hb dX10_sure_4 rfl (lv_at hl 2 rfl) ?_
  refine caVi (n := 1) (wr := [(h0, .inr (10, [.ref b0, .ref b1, .ref h2, .ref b2, .ref b3, .ref b4, .ref b5, .ref b6, .ref h1, .int 0]))]) (rest := []) hx hb hml hown hts hE hP hD hS hA (cnX8_growthsAt_1 l dC dI cy h1 h2 b7 b8 b9 b10 b11 b12 b13 b14 p2) k_1247 k_1248 k_1249 k_112 k_1250 (by decide +kernel) ⟨Nat.le_of_ble_eq_true rfl, Nat.le_of_ble_eq_true rfl⟩ [1, 2] [0] rfl rfl rfl (by decide) (by decide) (by decide) 0 8 rfl rfl rfl hl.1 rfl (Nat.le_of_ble_eq_true rfl) dX10_sure_5 ⟨Nat.le_of_ble_eq_true rfl, Nat.le_of_ble_eq_true rfl⟩ (fun rr u H locs hw hP hD hS => ?_)
  have hP : va_P (dC, dI) vwCl [(h0, .inr (10, [.ref b0, .ref b1, .ref h2, .ref b2, .ref b3, .ref b4, .ref b5, .ref b6, .ref h1, .int 0])), (h1, .inr (8, [.ref h2, .ref b7, .ref b8, .ref b9, .ref b10, .int 0, .ref b11])), (h2, .inr (7, [.ref b12, .ref b13, .ref b14, .int 0, .int 0, .int 10, .int 150, .int 2, .int 0, .int 0]))] H := hP
  have hD : va_D A [(h0, .inr (10, [.ref b0, .ref b1, .ref h2, .ref b2, .ref b3, .ref b4, .ref b5, .ref b6, .ref h1, .int 0])), (h1, .inr (8, [.ref h2, .ref b7, .ref b8, .ref b9, .ref b10, .int 0, .ref b11])), (h2, .inr (7, [.ref b12, .ref b13, .ref b14, .int 0, .int 0, .int 10, .int 150, .int 2, .int 0, .int 0]))] := hD
  refine tI (y := 0) hw ?_
  refine lv_istore_n (lv' := [(3, .int 0), (0, .ref h0), (1, .int p1), (2, .int p2)]) hx hb dX10_sure_8 rfl hl (by decide) rfl (fun ls hl => ?_)
  refine lv_iload_n hx hb dX10_sure_9 rfl (lv_at hl 0 rfl) ?_
  refine lv_if_eq (tgt := 22) hx hb dX10_sure_10 (by decide) (fun _ => ?_) (fun c0 => absurd (by decide) c0)
  refine lv_iconst (v := (-1)) hx hb dX10_sure_22 (by decide) ?_
  exact ret (-1) () _ _ _ _ _ _ rfl (pt_X10_sure_520 p1 p2) (hP.sub [] rfl) (hD.sub [] (by decide) rfl) hS dX10_sure_23 (Nat.le_of_ble_eq_true rfl) (Nat.le_of_ble_eq_true rfl)
theorem pt_X11_sure_521 (p1 : Int32) (p2 : Int32) (c1 : 0 ≤ p1 ∧ p1 ≤ 1) (c1 : 0 ≤ p1 ∧ p1 ≤ 1) : ((-1) : Int32) = F_sure p1 p2 := by
  unfold F_sure
  (repeat' split)
  all_goals first | rfl | assumption | (exfalso; simp only [fa_lt, fa_le, fa_eq, tl_m1, tl_0, tl_1] at *; omega) | (simp only [fa_lt, fa_le, fa_eq, tl_m1, tl_0, tl_1] at *; omega)
theorem pt_X11_sure_522 (p1 : Int32) (p2 : Int32) (c1 : ¬ (0 ≤ p1 ∧ p1 ≤ 1)) : ((-1) : Int32) = F_sure p1 p2 := by
  unfold F_sure
  (repeat' split)
  all_goals first | rfl | assumption | (exfalso; simp only [fa_lt, fa_le, fa_eq, tl_m1, tl_0, tl_1] at *; omega) | (simp only [fa_lt, fa_le, fa_eq, tl_m1, tl_0, tl_1] at *; omega)
set_option maxHeartbeats 4000000 in
set_option maxRecDepth 100000 in
theorem cnX11_sure_1 (l : Launch) (dC : Nat → ClassId) (dI : Nat → Nat → Nat) (cy : Nat → ClassId) (h0 : Nat) (r : Nat → Nat) (p1 : Int32) (p2 : Int32) : ctI l (dC, dI) cy yX11_sure cX11_sure 5 .int 2 84 0 0 Unit [.ref h0, .int p1, .int p2] [(h0, .inr (11, mFs r mv0))] (fun r _ => r = F_sure p1 p2) (fun u => []) := by
  refine ctI_of (by decide) (Nat.le_of_ble_eq_true rfl) (fun p e s m below meth c A ls Q hx hb hml hts hown hE hP hD hA hl ret => ?_)
  have hown : s.vm.findClass RX11 = some m.cls := hown
  have hS : va_S A s.heap s.heap [] := va_S.rf
  have hl : lv_has ls 5 [(0, .ref h0), (1, .int p1), (2, .int p2)] := hl
  refine lv_iload_n hx hb dX11_sure_0 rfl (lv_at hl 1 rfl) ?_
  refine lv_iconst (v := 0) hx hb dX11_sure_1 (by decide) ?_
  refine lv_iconst (v := 1) hx hb dX11_sure_2 (by decide) ?_
  by_cases c1 : (0 ≤ p1 ∧ p1 ≤ 1)
  · skip
    refine caSi (n := 3) (wr := [(h0, .inr (11, mFs r mv0))]) (rest := []) hx hb hml hown hts hE hP hD hS hA (cnX11_isIn_2 l dC dI cy p1 c1) k_1736 k_1737 k_114 k_1738 (by decide +kernel) ⟨Nat.le_of_ble_eq_true rfl, Nat.le_of_ble_eq_true rfl⟩ [] [0] rfl rfl rfl (by decide) (by decide) (by decide) rfl hl.1 rfl (Nat.le_of_ble_eq_true rfl) dX11_sure_3 ⟨Nat.le_of_ble_eq_true rfl, Nat.le_of_ble_eq_true rfl⟩ (fun rr u H locs hw hP hD hS => ?_)
    have hP : va_P (dC, dI) vwCl [(h0, .inr (11, mFs r mv0))] H := hP
    have hD : va_D A [(h0, .inr (11, mFs r mv0))] := hD
    refine tI (y := 1) hw ?_
    refine lv_if_eq (tgt := 17) hx hb dX11_sure_6 (by decide) (fun c0 => absurd c0 (by decide)) (fun _ => ?_)
    refine lv_aload_n hx hb dX11_sure_9 rfl (lv_at hl 0 rfl) ?_
    refine lv_iload_n hx hb dX11_sure_10 rfl (lv_at hl 2 rfl) ?_
    refine caVi (n := 1) (wr := []) (rest := []) hx hb hml hown hts hE hP hD hS hA (cnX11_layGrowths_1 l dC dI cy h0 r p2) k_2024 k_2026 k_97 k_114 k_2027 (by decide +kernel) ⟨Nat.le_of_ble_eq_true rfl, Nat.le_of_ble_eq_true rfl⟩ [0] [] rfl rfl rfl (by decide) (by decide) (by decide) 0 11 rfl rfl rfl hl.1 rfl (Nat.le_of_ble_eq_true rfl) dX11_sure_11 ⟨Nat.le_of_ble_eq_true rfl, Nat.le_of_ble_eq_true rfl⟩ (fun rr u H locs hw hP hD hS => ?_)
    have hP : va_P (dC, dI) vwCl [(h0, .inr (11, mFs r mv0))] H := hP
    have hD : va_D A [(h0, .inr (11, mFs r mv0))] := hD
    refine tI (y := 0) hw ?_
    refine lv_if_ne (tgt := 19) hx hb dX11_sure_14 (by decide) (fun c0 => absurd (by decide) c0) (fun _ => ?_)
    refine lv_iconst (v := (-1)) hx hb dX11_sure_17 (by decide) ?_
    exact ret (-1) () _ _ _ _ _ _ rfl (pt_X11_sure_521 p1 p2 c1 c1) (hP.sub [] rfl) (hD.sub [] (by decide) rfl) hS dX11_sure_18 (Nat.le_of_ble_eq_true rfl) (Nat.le_of_ble_eq_true rfl)
  · skip
    refine caSi (n := 3) (wr := [(h0, .inr (11, mFs r mv0))]) (rest := []) hx hb hml hown hts hE hP hD hS hA (cnX11_isIn_3 l dC dI cy p1 c1) k_1736 k_1737 k_114 k_1738 (by decide +kernel) ⟨Nat.le_of_ble_eq_true rfl, Nat.le_of_ble_eq_true rfl⟩ [] [0] rfl rfl rfl (by decide) (by decide) (by decide) rfl hl.1 rfl (Nat.le_of_ble_eq_true rfl) dX11_sure_3 ⟨Nat.le_of_ble_eq_true rfl, Nat.le_of_ble_eq_true rfl⟩ (fun rr u H locs hw hP hD hS => ?_)
    have hP : va_P (dC, dI) vwCl [(h0, .inr (11, mFs r mv0))] H := hP
    have hD : va_D A [(h0, .inr (11, mFs r mv0))] := hD
    refine tI (y := 0) hw ?_
    refine lv_if_eq (tgt := 17) hx hb dX11_sure_6 (by decide) (fun _ => ?_) (fun c0 => absurd (by decide) c0)
    refine lv_iconst (v := (-1)) hx hb dX11_sure_17 (by decide) ?_
    exact ret (-1) () _ _ _ _ _ _ rfl (pt_X11_sure_522 p1 p2 c1) (hP.sub [] rfl) (hD.sub [] (by decide) rfl) hS dX11_sure_18 (Nat.le_of_ble_eq_true rfl) (Nat.le_of_ble_eq_true rfl)
theorem pt_X10_ask_523 (p1 : Int32) (p2 : Int32) : ((-1) : Int32) = F_ask p1 p2 := by
  unfold F_ask
  (repeat' split)
  all_goals first | rfl | assumption | (exfalso; simp only [fa_lt, fa_le, fa_eq, tl_m1] at *; omega) | (simp only [fa_lt, fa_le, fa_eq, tl_m1] at *; omega)
set_option maxHeartbeats 4000000 in
set_option maxRecDepth 100000 in
theorem cnX10_ask_1 (l : Launch) (dC : Nat → ClassId) (dI : Nat → Nat → Nat) (cy : Nat → ClassId) (h0 : Nat) (h1 : Nat) (h2 : Nat) (b0 : Nat) (b1 : Nat) (b2 : Nat) (b3 : Nat) (b4 : Nat) (b5 : Nat) (b6 : Nat) (b7 : Nat) (b8 : Nat) (b9 : Nat) (b10 : Nat) (b11 : Nat) (b12 : Nat) (b13 : Nat) (b14 : Nat) (p1 : Int32) (p2 : Int32) : ctI l (dC, dI) cy yX10_ask cX10_ask 5 .int 2 85 0 0 Unit [.ref h0, .int p1, .int p2] [(h0, .inr (10, [.ref b0, .ref b1, .ref h2, .ref b2, .ref b3, .ref b4, .ref b5, .ref b6, .ref h1, .int 0])), (h1, .inr (8, [.ref h2, .ref b7, .ref b8, .ref b9, .ref b10, .int 0, .ref b11])), (h2, .inr (7, [.ref b12, .ref b13, .ref b14, .int 0, .int 0, .int 10, .int 150, .int 2, .int 0, .int 0]))] (fun r _ => r = F_ask p1 p2) (fun u => []) := by
  refine ctI_of (by decide) (Nat.le_of_ble_eq_true rfl) (fun p e s m below meth c A ls Q hx hb hml hts hown hE hP hD hA hl ret => ?_)
  have hown : s.vm.findClass RX10 = some m.cls := hown
  have hS : va_S A s.heap s.heap [] := va_S.rf
  have hl : lv_has ls 5 [(0, .ref h0), (1, .int p1), (2, .int p2)] := hl
  refine lv_aload_n hx hb dX10_ask_0 rfl (lv_at hl 0 rfl) ?_
  refine va_get (D := (dC, dI)) (ci := 10) (v := .ref h1) (C := RX10) (T := TX10) (N := 10) hx hb hts inB_10 hown hE.1 hP 0 rfl rfl 8 (by decide) (hts _ k_499) (fun _ h9 => h9) rfl dX10_ask_1 ?_
  refine lv_iload_n hx hb dX10_ask_4 rfl (lv_at hl 2 rfl) ?_
  refine caVi (n := 1) (wr := [(h0, .inr (10, [.ref b0, .ref b1, .ref h2, .ref b2, .ref b3, .ref b4, .ref b5, .ref b6, .ref h1, .int 0]))]) (rest := []) hx hb hml hown hts hE hP hD hS hA (cnX8_growthsAt_1 l dC dI cy h1 h2 b7 b8 b9 b10 b11 b12 b13 b14 p2) k_1247 k_1248 k_1249 k_112 k_1250 (by decide +kernel) ⟨Nat.le_of_ble_eq_true rfl, Nat.le_of_ble_eq_true rfl⟩ [1, 2] [0] rfl rfl rfl (by decide) (by decide) (by decide) 0 8 rfl rfl rfl hl.1 rfl (Nat.le_of_ble_eq_true rfl) dX10_ask_5 ⟨Nat.le_of_ble_eq_true rfl, Nat.le_of_ble_eq_true rfl⟩ (fun rr u H locs hw hP hD hS => ?_)
  have hP : va_P (dC, dI) vwCl [(h0, .inr (10, [.ref b0, .ref b1, .ref h2, .ref b2, .ref b3, .ref b4, .ref b5, .ref b6, .ref h1, .int 0])), (h1, .inr (8, [.ref h2, .ref b7, .ref b8, .ref b9, .ref b10, .int 0, .ref b11])), (h2, .inr (7, [.ref b12, .ref b13, .ref b14, .int 0, .int 0, .int 10, .int 150, .int 2, .int 0, .int 0]))] H := hP
  have hD : va_D A [(h0, .inr (10, [.ref b0, .ref b1, .ref h2, .ref b2, .ref b3, .ref b4, .ref b5, .ref b6, .ref h1, .int 0])), (h1, .inr (8, [.ref h2, .ref b7, .ref b8, .ref b9, .ref b10, .int 0, .ref b11])), (h2, .inr (7, [.ref b12, .ref b13, .ref b14, .int 0, .int 0, .int 10, .int 150, .int 2, .int 0, .int 0]))] := hD
  refine tI (y := 0) hw ?_
  refine lv_istore_n (lv' := [(3, .int 0), (0, .ref h0), (1, .int p1), (2, .int p2)]) hx hb dX10_ask_8 rfl hl (by decide) rfl (fun ls hl => ?_)
  refine lv_iload_n hx hb dX10_ask_9 rfl (lv_at hl 0 rfl) ?_
  refine lv_if_eq (tgt := 22) hx hb dX10_ask_10 (by decide) (fun _ => ?_) (fun c0 => absurd (by decide) c0)
  refine lv_iconst (v := (-1)) hx hb dX10_ask_22 (by decide) ?_
  exact ret (-1) () _ _ _ _ _ _ rfl (pt_X10_ask_523 p1 p2) (hP.sub [] rfl) (hD.sub [] (by decide) rfl) hS dX10_ask_23 (Nat.le_of_ble_eq_true rfl) (Nat.le_of_ble_eq_true rfl)
theorem pt_X11_ask_524 (p1 : Int32) (p2 : Int32) (c1 : 0 ≤ p1 ∧ p1 ≤ 1) (c1 : 0 ≤ p1 ∧ p1 ≤ 1) : ((-1) : Int32) = F_ask p1 p2 := by
  unfold F_ask
  (repeat' split)
  all_goals first | rfl | assumption | (exfalso; simp only [fa_lt, fa_le, fa_eq, tl_m1, tl_0, tl_1] at *; omega) | (simp only [fa_lt, fa_le, fa_eq, tl_m1, tl_0, tl_1] at *; omega)
theorem pt_X11_ask_525 (p1 : Int32) (p2 : Int32) (c1 : ¬ (0 ≤ p1 ∧ p1 ≤ 1)) : ((-1) : Int32) = F_ask p1 p2 := by
  unfold F_ask
  (repeat' split)
  all_goals first | rfl | assumption | (exfalso; simp only [fa_lt, fa_le, fa_eq, tl_m1, tl_0, tl_1] at *; omega) | (simp only [fa_lt, fa_le, fa_eq, tl_m1, tl_0, tl_1] at *; omega)
set_option maxHeartbeats 4000000 in
set_option maxRecDepth 100000 in
theorem cnX11_ask_1 (l : Launch) (dC : Nat → ClassId) (dI : Nat → Nat → Nat) (cy : Nat → ClassId) (h0 : Nat) (r : Nat → Nat) (p1 : Int32) (p2 : Int32) : ctI l (dC, dI) cy yX11_ask cX11_ask 6 .int 2 84 0 0 Unit [.ref h0, .int p1, .int p2] [(h0, .inr (11, mFs r mv0))] (fun r _ => r = F_ask p1 p2) (fun u => []) := by
  refine ctI_of (by decide) (Nat.le_of_ble_eq_true rfl) (fun p e s m below meth c A ls Q hx hb hml hts hown hE hP hD hA hl ret => ?_)
  have hown : s.vm.findClass RX11 = some m.cls := hown
  have hS : va_S A s.heap s.heap [] := va_S.rf
  have hl : lv_has ls 6 [(0, .ref h0), (1, .int p1), (2, .int p2)] := hl
  refine lv_iload_n hx hb dX11_ask_0 rfl (lv_at hl 1 rfl) ?_
  refine lv_iconst (v := 0) hx hb dX11_ask_1 (by decide) ?_
  refine lv_iconst (v := 1) hx hb dX11_ask_2 (by decide) ?_
  by_cases c1 : (0 ≤ p1 ∧ p1 ≤ 1)
  · skip
    refine caSi (n := 3) (wr := [(h0, .inr (11, mFs r mv0))]) (rest := []) hx hb hml hown hts hE hP hD hS hA (cnX11_isIn_2 l dC dI cy p1 c1) k_1736 k_1737 k_114 k_1738 (by decide +kernel) ⟨Nat.le_of_ble_eq_true rfl, Nat.le_of_ble_eq_true rfl⟩ [] [0] rfl rfl rfl (by decide) (by decide) (by decide) rfl hl.1 rfl (Nat.le_of_ble_eq_true rfl) dX11_ask_3 ⟨Nat.le_of_ble_eq_true rfl, Nat.le_of_ble_eq_true rfl⟩ (fun rr u H locs hw hP hD hS => ?_)
    have hP : va_P (dC, dI) vwCl [(h0, .inr (11, mFs r mv0))] H := hP
    have hD : va_D A [(h0, .inr (11, mFs r mv0))] := hD
    refine tI (y := 1) hw ?_
    refine lv_if_ne (tgt := 11) hx hb dX11_ask_6 (by decide) (fun _ => ?_) (fun c0 => absurd c0 (by decide))
    refine lv_aload_n hx hb dX11_ask_11 rfl (lv_at hl 0 rfl) ?_
    refine lv_iload_n hx hb dX11_ask_12 rfl (lv_at hl 2 rfl) ?_
    refine caVi (n := 1) (wr := []) (rest := []) hx hb hml hown hts hE hP hD hS hA (cnX11_layGrowths_1 l dC dI cy h0 r p2) k_2024 k_2026 k_97 k_114 k_2027 (by decide +kernel) ⟨Nat.le_of_ble_eq_true rfl, Nat.le_of_ble_eq_true rfl⟩ [0] [] rfl rfl rfl (by decide) (by decide) (by decide) 0 11 rfl rfl rfl hl.1 rfl (Nat.le_of_ble_eq_true rfl) dX11_ask_13 ⟨Nat.le_of_ble_eq_true rfl, Nat.le_of_ble_eq_true rfl⟩ (fun rr u H locs hw hP hD hS => ?_)
    have hP : va_P (dC, dI) vwCl [(h0, .inr (11, mFs r mv0))] H := hP
    have hD : va_D A [(h0, .inr (11, mFs r mv0))] := hD
    refine tI (y := 0) hw ?_
    refine lv_istore_n (lv' := [(3, .int 0), (0, .ref h0), (1, .int p1), (2, .int p2)]) hx hb dX11_ask_16 rfl hl (by decide) rfl (fun ls hl => ?_)
    refine lv_iload_n hx hb dX11_ask_17 rfl (lv_at hl 0 rfl) ?_
    refine lv_if_ne (tgt := 23) hx hb dX11_ask_18 (by decide) (fun c0 => absurd (by decide) c0) (fun _ => ?_)
    refine lv_iconst (v := (-1)) hx hb dX11_ask_21 (by decide) ?_
    exact ret (-1) () _ _ _ _ _ _ rfl (pt_X11_ask_524 p1 p2 c1 c1) (hP.sub [] rfl) (hD.sub [] (by decide) rfl) hS dX11_ask_22 (Nat.le_of_ble_eq_true rfl) (Nat.le_of_ble_eq_true rfl)
  · skip
    refine caSi (n := 3) (wr := [(h0, .inr (11, mFs r mv0))]) (rest := []) hx hb hml hown hts hE hP hD hS hA (cnX11_isIn_3 l dC dI cy p1 c1) k_1736 k_1737 k_114 k_1738 (by decide +kernel) ⟨Nat.le_of_ble_eq_true rfl, Nat.le_of_ble_eq_true rfl⟩ [] [0] rfl rfl rfl (by decide) (by decide) (by decide) rfl hl.1 rfl (Nat.le_of_ble_eq_true rfl) dX11_ask_3 ⟨Nat.le_of_ble_eq_true rfl, Nat.le_of_ble_eq_true rfl⟩ (fun rr u H locs hw hP hD hS => ?_)
    have hP : va_P (dC, dI) vwCl [(h0, .inr (11, mFs r mv0))] H := hP
    have hD : va_D A [(h0, .inr (11, mFs r mv0))] := hD
    refine tI (y := 0) hw ?_
    refine lv_if_ne (tgt := 11) hx hb dX11_ask_6 (by decide) (fun c0 => absurd (by decide) c0) (fun _ => ?_)
    refine lv_iconst (v := (-1)) hx hb dX11_ask_9 (by decide) ?_
    exact ret (-1) () _ _ _ _ _ _ rfl (pt_X11_ask_525 p1 p2 c1) (hP.sub [] rfl) (hD.sub [] (by decide) rfl) hS dX11_ask_10 (Nat.le_of_ble_eq_true rfl) (Nat.le_of_ble_eq_true rfl)
set_option maxHeartbeats 4000000 in
set_option maxRecDepth 100000 in
theorem cnX1_saveTo_3 (l : Launch) (dC : Nat → ClassId) (dI : Nat → Nat → Nat) (cy : Nat → ClassId) (h0 : Nat) (h1 : Nat) (h2 : Nat) (f0 : Nat → Int32) (b0 : Nat) (f1 : Nat → Int32) : ctV l (dC, dI) cy yX1_saveTo cX1_saveTo 3 1 100 0 0 Unit [.ref h1, .ref h0, .int 0] [(h0, .inl (cy 1, 132, .inl f0)), (h1, .inr (1, [.ref b0, .ref h2])), (h2, .inl (cy 1, 44, .inl f1))] (fun _ => True) (fun u => [(h0, .inl (cy 1, 132, .inl (va_cpy f1 f0 0 0 44))), (h1, .inr (1, [.ref b0, .ref h2])), (h2, .inl (cy 1, 44, .inl f1))]) := by
  refine ctV_of (by decide) (Nat.le_of_ble_eq_true rfl) (fun p e s m below meth c A ls Q hx hb hml hts hown hnm hE hP hD hA hl ret => ?_)
  have hown : s.vm.findClass RX1 = some m.cls := hown
  have hS : va_S A s.heap s.heap [] := va_S.rf
  have hl : lv_has ls 3 [(0, .ref h1), (1, .ref h0), (2, .int 0)] := hl
  refine lv_iload_n hx hb dX1_saveTo_0 rfl (lv_at hl 2 rfl) ?_
  refine lv_if_lt (tgt := 28) hx hb dX1_saveTo_1 (by decide) (fun c0 => absurd c0 (by decide)) (fun _ => ?_)
  refine lv_iload_n hx hb dX1_saveTo_4 rfl (lv_at hl 2 rfl) ?_
  refine lv_aload_n hx hb dX1_saveTo_5 rfl (lv_at hl 1 rfl) ?_
  refine va_alen (v := 132) hx hb hE.1 hP 0 1 rfl rfl rfl dX1_saveTo_6 ?_
  refine lv_bipush (v := 44) hx hb dX1_saveTo_7 (by decide) ?_
  refine lv_idiv hx hb dX1_saveTo_9 (by decide) ?_
  refine tI (y := 3) (by decide) ?_
  refine lv_icmp_ge (tgt := 28) hx hb dX1_saveTo_10 (by decide) (fun c0 => absurd c0 (by decide)) (fun _ => ?_)
  refine lv_aload_n hx hb dX1_saveTo_13 rfl (lv_at hl 0 rfl) ?_
  refine va_get (D := (dC, dI)) (ci := 1) (v := .ref h2) (C := RX1) (T := TX1) (N := 2) hx hb hts inB_1 hown hE.1 hP 1 rfl rfl 1 (by decide) (hts _ k_319) (fun _ h9 => h9) rfl dX1_saveTo_14 ?_
  refine lv_iconst (v := 0) hx hb dX1_saveTo_17 (by decide) ?_
  refine lv_aload_n hx hb dX1_saveTo_18 rfl (lv_at hl 1 rfl) ?_
  refine lv_iload_n hx hb dX1_saveTo_19 rfl (lv_at hl 2 rfl) ?_
  refine lv_bipush (v := 44) hx hb dX1_saveTo_20 (by decide) ?_
  refine lv_imul hx hb dX1_saveTo_22 ?_
  refine tI (y := 0) (by decide) ?_
  refine lv_bipush (v := 44) hx hb dX1_saveTo_23 (by decide) ?_
  refine cpI (n := 44) (sp := 0) (dp := 0) (kn := 44) (ks := 0) (kd := 0) hx hb (by rw [hml]; exact hl.1.symm) hown (hts _ k_335) (hts _ k_337) (hts _ k_336) (hts _ k_108) hE hP hD hS 2 0 rfl rfl rfl rfl rfl (by decide) (by decide) (Nat.le_of_ble_eq_true rfl) (Nat.le_of_ble_eq_true rfl) dX1_saveTo_25 (fun H locs hP hD hS => ?_)
  have hP : va_P (dC, dI) vwCl [(h0, .inl (cy 1, 132, .inl (va_cpy f1 f0 0 0 44))), (h1, .inr (1, [.ref b0, .ref h2])), (h2, .inl (cy 1, 44, .inl f1))] H := hP
  have hD : va_D A [(h0, .inl (cy 1, 132, .inl (va_cpy f1 f0 0 0 44))), (h1, .inr (1, [.ref b0, .ref h2])), (h2, .inl (cy 1, 44, .inl f1))] := hD
  exact ret () _ _ _ _ _ _ trivial (hP.sub [0, 1, 2] rfl) (hD.sub [0, 1, 2] (by decide) rfl) hS dX1_saveTo_28 (Nat.le_of_ble_eq_true rfl) (Nat.le_of_ble_eq_true rfl)
set_option maxHeartbeats 4000000 in
set_option maxRecDepth 100000 in
theorem cnX5_fillBox_1 (l : Launch) (dC : Nat → ClassId) (dI : Nat → Nat → Nat) (cy : Nat → ClassId) (h0 : Nat) (h1 : Nat) (h2 : Nat) (h3 : Nat) (b0 : Nat) (f0 : Nat → Int32) (b1 : Nat) (f1 : Nat → Int32) : ctI l (dC, dI) cy yX5_fillBox cX5_fillBox 2 .boolean 2 122 0 0 Unit [.ref h0, .int 0] [(h0, .inr (5, [.ref h2, .ref b0, .ref h1, .int 0, .int 0, .int 0, .int 0])), (h1, .inl (cy 1, 132, .inl f0)), (h2, .inr (1, [.ref b1, .ref h3])), (h3, .inl (cy 1, 44, .inl f1))] (fun r _ => r = 1) (fun u => [(h0, .inr (5, [.ref h2, .ref b0, .ref h1, .int 1, .int 0, .int 0, .int 0])), (h1, .inl (cy 1, 132, .inl (va_cpy f1 f0 0 0 44))), (h2, .inr (1, [.ref b1, .ref h3])), (h3, .inl (cy 1, 44, .inl f1))]) := by
  refine ctI_of (by decide) (Nat.le_of_ble_eq_true rfl) (fun p e s m below meth c A ls Q hx hb hml hts hown hE hP hD hA hl ret => ?_)
  have hown : s.vm.findClass RX5 = some m.cls := hown
  have hS : va_S A s.heap s.heap [] := va_S.rf
  have hl : lv_has ls 2 [(0, .ref h0), (1, .int 0)] := hl
  refine lv_iload_n hx hb dX5_fillBox_0 rfl (lv_at hl 1 rfl) ?_
  refine lv_if_lt (tgt := 9) hx hb dX5_fillBox_1 (by decide) (fun c0 => absurd c0 (by decide)) (fun _ => ?_)
  refine lv_iload_n hx hb dX5_fillBox_4 rfl (lv_at hl 1 rfl) ?_
  refine lv_iconst (v := 3) hx hb dX5_fillBox_5 (by decide) ?_
  refine lv_icmp_lt (tgt := 11) hx hb dX5_fillBox_6 (by decide) (fun _ => ?_) (fun c0 => absurd (by decide) c0)
  refine lv_aload_n hx hb dX5_fillBox_11 rfl (lv_at hl 0 rfl) ?_
  refine va_get (D := (dC, dI)) (ci := 5) (v := .ref h2) (C := RX5) (T := TX5) (N := 7) hx hb hts inB_5 hown hE.1 hP 0 rfl rfl 0 (by decide) (hts _ k_338) (fun _ h9 => h9) rfl dX5_fillBox_12 ?_
  refine lv_aload_n hx hb dX5_fillBox_15 rfl (lv_at hl 0 rfl) ?_
  refine va_get (D := (dC, dI)) (ci := 5) (v := .ref h1) (C := RX5) (T := TX5) (N := 7) hx hb hts inB_5 hown hE.1 hP 0 rfl rfl 2 (by decide) (hts _ k_340) (fun _ h9 => h9) rfl dX5_fillBox_16 ?_
  refine lv_iload_n hx hb dX5_fillBox_19 rfl (lv_at hl 1 rfl) ?_
  refine caVv (n := 2) (wr := [(h0, .inr (5, [.ref h2, .ref b0, .ref h1, .int 0, .int 0, .int 0, .int 0]))]) (rest := []) hx hb hml hown hts hE hP hD hS hA (cnX1_saveTo_3 l dC dI cy h1 h2 h3 f0 b1 f1) k_331 k_332 k_333 k_106 k_334 (by decide +kernel) ⟨Nat.le_of_ble_eq_true rfl, Nat.le_of_ble_eq_true rfl⟩ [1, 2, 3] [0] rfl rfl rfl (by decide) (by decide) (by decide) 1 1 rfl rfl rfl hl.1 rfl (Nat.le_of_ble_eq_true rfl) dX5_fillBox_20 ⟨Nat.le_of_ble_eq_true rfl, Nat.le_of_ble_eq_true rfl⟩ (fun u H locs hw hP hD hS => ?_)
  have hP : va_P (dC, dI) vwCl [(h0, .inr (5, [.ref h2, .ref b0, .ref h1, .int 0, .int 0, .int 0, .int 0])), (h1, .inl (cy 1, 132, .inl (va_cpy f1 f0 0 0 44))), (h2, .inr (1, [.ref b1, .ref h3])), (h3, .inl (cy 1, 44, .inl f1))] H := hP
  have hD : va_D A [(h0, .inr (5, [.ref h2, .ref b0, .ref h1, .int 0, .int 0, .int 0, .int 0])), (h1, .inl (cy 1, 132, .inl (va_cpy f1 f0 0 0 44))), (h2, .inr (1, [.ref b1, .ref h3])), (h3, .inl (cy 1, 44, .inl f1))] := hD
  refine lv_aload_n hx hb dX5_fillBox_23 rfl (lv_at hl 0 rfl) ?_
  refine lv_dup hx hb dX5_fillBox_24 rfl ?_
  refine va_get (D := (dC, dI)) (ci := 5) (v := .int 0) (C := RX5) (T := TX5) (N := 7) hx hb hts inB_5 hown hE.1 hP 0 rfl rfl 3 (by decide) (hts _ k_341) (fun _ h9 => h9) rfl dX5_fillBox_25 ?_
  refine lv_iconst (v := 1) hx hb dX5_fillBox_28 (by decide) ?_
  refine lv_iload_n hx hb dX5_fillBox_29 rfl (lv_at hl 1 rfl) ?_
  refine lv_ishl hx hb dX5_fillBox_30 ?_
  refine tI (y := 1) (by decide) ?_
  refine lv_ior hx hb dX5_fillBox_31 ?_
  refine tI (y := 1) (by decide) ?_
  refine va_put (D := (dC, dI)) (ci := 5) (v := .int 1) (ty := tyX5 3) (C := RX5) (T := TX5) (N := 7) hx hb hts inB_5 tyX5 tyX5_ok nmX5 hown hE.1 hP hD hS 0 rfl rfl 3 (by decide) (hts _ k_341) (fun _ h9 => h9) rfl (tyX5_ok 3 (by decide)) rfl rfl (Nat.le_of_ble_eq_true rfl) dX5_fillBox_32 (fun H locs hP hD hS => ?_)
  have hP : va_P (dC, dI) vwCl [(h0, .inr (5, [.ref h2, .ref b0, .ref h1, .int 1, .int 0, .int 0, .int 0])), (h1, .inl (cy 1, 132, .inl (va_cpy f1 f0 0 0 44))), (h2, .inr (1, [.ref b1, .ref h3])), (h3, .inl (cy 1, 44, .inl f1))] H := hP
  have hD : va_D A [(h0, .inr (5, [.ref h2, .ref b0, .ref h1, .int 1, .int 0, .int 0, .int 0])), (h1, .inl (cy 1, 132, .inl (va_cpy f1 f0 0 0 44))), (h2, .inr (1, [.ref b1, .ref h3])), (h3, .inl (cy 1, 44, .inl f1))] := hD
  refine lv_iconst (v := 1) hx hb dX5_fillBox_35 (by decide) ?_
  exact ret 1 () _ _ _ _ _ _ rfl rfl (hP.sub [0, 1, 2, 3] rfl) (hD.sub [0, 1, 2, 3] (by decide) rfl) hS dX5_fillBox_36 (Nat.le_of_ble_eq_true rfl) (Nat.le_of_ble_eq_true rfl)
set_option maxHeartbeats 4000000 in
set_option maxRecDepth 100000 in
theorem cnX1_saveTo_4 (l : Launch) (dC : Nat → ClassId) (dI : Nat → Nat → Nat) (cy : Nat → ClassId) (h0 : Nat) (h1 : Nat) (h2 : Nat) (f0 : Nat → Int32) (b0 : Nat) (f1 : Nat → Int32) : ctV l (dC, dI) cy yX1_saveTo cX1_saveTo 3 1 100 0 0 Unit [.ref h1, .ref h0, .int 1] [(h0, .inl (cy 1, 132, .inl f0)), (h1, .inr (1, [.ref b0, .ref h2])), (h2, .inl (cy 1, 44, .inl f1))] (fun _ => True) (fun u => [(h0, .inl (cy 1, 132, .inl (va_cpy f1 f0 0 44 44))), (h1, .inr (1, [.ref b0, .ref h2])), (h2, .inl (cy 1, 44, .inl f1))]) := by
  refine ctV_of (by decide) (Nat.le_of_ble_eq_true rfl) (fun p e s m below meth c A ls Q hx hb hml hts hown hnm hE hP hD hA hl ret => ?_)
  have hown : s.vm.findClass RX1 = some m.cls := hown
  have hS : va_S A s.heap s.heap [] := va_S.rf
  have hl : lv_has ls 3 [(0, .ref h1), (1, .ref h0), (2, .int 1)] := hl
  refine lv_iload_n hx hb dX1_saveTo_0 rfl (lv_at hl 2 rfl) ?_
  refine lv_if_lt (tgt := 28) hx hb dX1_saveTo_1 (by decide) (fun c0 => absurd c0 (by decide)) (fun _ => ?_)
  refine lv_iload_n hx hb dX1_saveTo_4 rfl (lv_at hl 2 rfl) ?_
  refine lv_aload_n hx hb dX1_saveTo_5 rfl (lv_at hl 1 rfl) ?_
  refine va_alen (v := 132) hx hb hE.1 hP 0 1 rfl rfl rfl dX1_saveTo_6 ?_
  refine lv_bipush (v := 44) hx hb dX1_saveTo_7 (by decide) ?_
  refine lv_idiv hx hb dX1_saveTo_9 (by decide) ?_
  refine tI (y := 3) (by decide) ?_
  refine lv_icmp_ge (tgt := 28) hx hb dX1_saveTo_10 (by decide) (fun c0 => absurd c0 (by decide)) (fun _ => ?_)
  refine lv_aload_n hx hb dX1_saveTo_13 rfl (lv_at hl 0 rfl) ?_
  refine va_get (D := (dC, dI)) (ci := 1) (v := .ref h2) (C := RX1) (T := TX1) (N := 2) hx hb hts inB_1 hown hE.1 hP 1 rfl rfl 1 (by decide) (hts _ k_319) (fun _ h9 => h9) rfl dX1_saveTo_14 ?_
  refine lv_iconst (v := 0) hx hb dX1_saveTo_17 (by decide) ?_
  refine lv_aload_n hx hb dX1_saveTo_18 rfl (lv_at hl 1 rfl) ?_
  refine lv_iload_n hx hb dX1_saveTo_19 rfl (lv_at hl 2 rfl) ?_
  refine lv_bipush (v := 44) hx hb dX1_saveTo_20 (by decide) ?_
  refine lv_imul hx hb dX1_saveTo_22 ?_
  refine tI (y := 44) (by decide) ?_
  refine lv_bipush (v := 44) hx hb dX1_saveTo_23 (by decide) ?_
  refine cpI (n := 44) (sp := 0) (dp := 44) (kn := 44) (ks := 0) (kd := 44) hx hb (by rw [hml]; exact hl.1.symm) hown (hts _ k_335) (hts _ k_337) (hts _ k_336) (hts _ k_108) hE hP hD hS 2 0 rfl rfl rfl rfl rfl (by decide) (by decide) (Nat.le_of_ble_eq_true rfl) (Nat.le_of_ble_eq_true rfl) dX1_saveTo_25 (fun H locs hP hD hS => ?_)
  have hP : va_P (dC, dI) vwCl [(h0, .inl (cy 1, 132, .inl (va_cpy f1 f0 0 44 44))), (h1, .inr (1, [.ref b0, .ref h2])), (h2, .inl (cy 1, 44, .inl f1))] H := hP
  have hD : va_D A [(h0, .inl (cy 1, 132, .inl (va_cpy f1 f0 0 44 44))), (h1, .inr (1, [.ref b0, .ref h2])), (h2, .inl (cy 1, 44, .inl f1))] := hD
  exact ret () _ _ _ _ _ _ trivial (hP.sub [0, 1, 2] rfl) (hD.sub [0, 1, 2] (by decide) rfl) hS dX1_saveTo_28 (Nat.le_of_ble_eq_true rfl) (Nat.le_of_ble_eq_true rfl)
set_option maxHeartbeats 4000000 in
set_option maxRecDepth 100000 in
theorem cnX5_fillBox_2 (l : Launch) (dC : Nat → ClassId) (dI : Nat → Nat → Nat) (cy : Nat → ClassId) (h0 : Nat) (h1 : Nat) (h2 : Nat) (h3 : Nat) (b0 : Nat) (f0 : Nat → Int32) (b1 : Nat) (f1 : Nat → Int32) : ctI l (dC, dI) cy yX5_fillBox cX5_fillBox 2 .boolean 2 122 0 0 Unit [.ref h0, .int 1] [(h0, .inr (5, [.ref h2, .ref b0, .ref h1, .int 0, .int 0, .int 0, .int 0])), (h1, .inl (cy 1, 132, .inl f0)), (h2, .inr (1, [.ref b1, .ref h3])), (h3, .inl (cy 1, 44, .inl f1))] (fun r _ => r = 1) (fun u => [(h0, .inr (5, [.ref h2, .ref b0, .ref h1, .int 2, .int 0, .int 0, .int 0])), (h1, .inl (cy 1, 132, .inl (va_cpy f1 f0 0 44 44))), (h2, .inr (1, [.ref b1, .ref h3])), (h3, .inl (cy 1, 44, .inl f1))]) := by
  refine ctI_of (by decide) (Nat.le_of_ble_eq_true rfl) (fun p e s m below meth c A ls Q hx hb hml hts hown hE hP hD hA hl ret => ?_)
  have hown : s.vm.findClass RX5 = some m.cls := hown
  have hS : va_S A s.heap s.heap [] := va_S.rf
  have hl : lv_has ls 2 [(0, .ref h0), (1, .int 1)] := hl
  refine lv_iload_n hx hb dX5_fillBox_0 rfl (lv_at hl 1 rfl) ?_
  refine lv_if_lt (tgt := 9) hx hb dX5_fillBox_1 (by decide) (fun c0 => absurd c0 (by decide)) (fun _ => ?_)
  refine lv_iload_n hx hb dX5_fillBox_4 rfl (lv_at hl 1 rfl) ?_
  refine lv_iconst (v := 3) hx hb dX5_fillBox_5 (by decide) ?_
  refine lv_icmp_lt (tgt := 11) hx hb dX5_fillBox_6 (by decide) (fun _ => ?_) (fun c0 => absurd (by decide) c0)
  refine lv_aload_n hx hb dX5_fillBox_11 rfl (lv_at hl 0 rfl) ?_
  refine va_get (D := (dC, dI)) (ci := 5) (v := .ref h2) (C := RX5) (T := TX5) (N := 7) hx hb hts inB_5 hown hE.1 hP 0 rfl rfl 0 (by decide) (hts _ k_338) (fun _ h9 => h9) rfl dX5_fillBox_12 ?_
  refine lv_aload_n hx hb dX5_fillBox_15 rfl (lv_at hl 0 rfl) ?_
  refine va_get (D := (dC, dI)) (ci := 5) (v := .ref h1) (C := RX5) (T := TX5) (N := 7) hx hb hts inB_5 hown hE.1 hP 0 rfl rfl 2 (by decide) (hts _ k_340) (fun _ h9 => h9) rfl dX5_fillBox_16 ?_
  refine lv_iload_n hx hb dX5_fillBox_19 rfl (lv_at hl 1 rfl) ?_
  refine caVv (n := 2) (wr := [(h0, .inr (5, [.ref h2, .ref b0, .ref h1, .int 0, .int 0, .int 0, .int 0]))]) (rest := []) hx hb hml hown hts hE hP hD hS hA (cnX1_saveTo_4 l dC dI cy h1 h2 h3 f0 b1 f1) k_331 k_332 k_333 k_106 k_334 (by decide +kernel) ⟨Nat.le_of_ble_eq_true rfl, Nat.le_of_ble_eq_true rfl⟩ [1, 2, 3] [0] rfl rfl rfl (by decide) (by decide) (by decide) 1 1 rfl rfl rfl hl.1 rfl (Nat.le_of_ble_eq_true rfl) dX5_fillBox_20 ⟨Nat.le_of_ble_eq_true rfl, Nat.le_of_ble_eq_true rfl⟩ (fun u H locs hw hP hD hS => ?_)
  have hP : va_P (dC, dI) vwCl [(h0, .inr (5, [.ref h2, .ref b0, .ref h1, .int 0, .int 0, .int 0, .int 0])), (h1, .inl (cy 1, 132, .inl (va_cpy f1 f0 0 44 44))), (h2, .inr (1, [.ref b1, .ref h3])), (h3, .inl (cy 1, 44, .inl f1))] H := hP
  have hD : va_D A [(h0, .inr (5, [.ref h2, .ref b0, .ref h1, .int 0, .int 0, .int 0, .int 0])), (h1, .inl (cy 1, 132, .inl (va_cpy f1 f0 0 44 44))), (h2, .inr (1, [.ref b1, .ref h3])), (h3, .inl (cy 1, 44, .inl f1))] := hD
  refine lv_aload_n hx hb dX5_fillBox_23 rfl (lv_at hl 0 rfl) ?_
  refine lv_dup hx hb dX5_fillBox_24 rfl ?_
  refine va_get (D := (dC, dI)) (ci := 5) (v := .int 0) (C := RX5) (T := TX5) (N := 7) hx hb hts inB_5 hown hE.1 hP 0 rfl rfl 3 (by decide) (hts _ k_341) (fun _ h9 => h9) rfl dX5_fillBox_25 ?_
  refine lv_iconst (v := 1) hx hb dX5_fillBox_28 (by decide) ?_
  refine lv_iload_n hx hb dX5_fillBox_29 rfl (lv_at hl 1 rfl) ?_
  refine lv_ishl hx hb dX5_fillBox_30 ?_
  refine tI (y := 2) (by decide) ?_
  refine lv_ior hx hb dX5_fillBox_31 ?_
  refine tI (y := 2) (by decide) ?_
  refine va_put (D := (dC, dI)) (ci := 5) (v := .int 2) (ty := tyX5 3) (C := RX5) (T := TX5) (N := 7) hx hb hts inB_5 tyX5 tyX5_ok nmX5 hown hE.1 hP hD hS 0 rfl rfl 3 (by decide) (hts _ k_341) (fun _ h9 => h9) rfl (tyX5_ok 3 (by decide)) rfl rfl (Nat.le_of_ble_eq_true rfl) dX5_fillBox_32 (fun H locs hP hD hS => ?_)
  have hP : va_P (dC, dI) vwCl [(h0, .inr (5, [.ref h2, .ref b0, .ref h1, .int 2, .int 0, .int 0, .int 0])), (h1, .inl (cy 1, 132, .inl (va_cpy f1 f0 0 44 44))), (h2, .inr (1, [.ref b1, .ref h3])), (h3, .inl (cy 1, 44, .inl f1))] H := hP
  have hD : va_D A [(h0, .inr (5, [.ref h2, .ref b0, .ref h1, .int 2, .int 0, .int 0, .int 0])), (h1, .inl (cy 1, 132, .inl (va_cpy f1 f0 0 44 44))), (h2, .inr (1, [.ref b1, .ref h3])), (h3, .inl (cy 1, 44, .inl f1))] := hD
  refine lv_iconst (v := 1) hx hb dX5_fillBox_35 (by decide) ?_
  exact ret 1 () _ _ _ _ _ _ rfl rfl (hP.sub [0, 1, 2, 3] rfl) (hD.sub [0, 1, 2, 3] (by decide) rfl) hS dX5_fillBox_36 (Nat.le_of_ble_eq_true rfl) (Nat.le_of_ble_eq_true rfl)
set_option maxHeartbeats 4000000 in
set_option maxRecDepth 100000 in
theorem cnX1_saveTo_5 (l : Launch) (dC : Nat → ClassId) (dI : Nat → Nat → Nat) (cy : Nat → ClassId) (h0 : Nat) (h1 : Nat) (h2 : Nat) (f0 : Nat → Int32) (b0 : Nat) (f1 : Nat → Int32) : ctV l (dC, dI) cy yX1_saveTo cX1_saveTo 3 1 100 0 0 Unit [.ref h1, .ref h0, .int 2] [(h0, .inl (cy 1, 132, .inl f0)), (h1, .inr (1, [.ref b0, .ref h2])), (h2, .inl (cy 1, 44, .inl f1))] (fun _ => True) (fun u => [(h0, .inl (cy 1, 132, .inl (va_cpy f1 f0 0 88 44))), (h1, .inr (1, [.ref b0, .ref h2])), (h2, .inl (cy 1, 44, .inl f1))]) := by
  refine ctV_of (by decide) (Nat.le_of_ble_eq_true rfl) (fun p e s m below meth c A ls Q hx hb hml hts hown hnm hE hP hD hA hl ret => ?_)
  have hown : s.vm.findClass RX1 = some m.cls := hown
  have hS : va_S A s.heap s.heap [] := va_S.rf
  have hl : lv_has ls 3 [(0, .ref h1), (1, .ref h0), (2, .int 2)] := hl
  refine lv_iload_n hx hb dX1_saveTo_0 rfl (lv_at hl 2 rfl) ?_
  refine lv_if_lt (tgt := 28) hx hb dX1_saveTo_1 (by decide) (fun c0 => absurd c0 (by decide)) (fun _ => ?_)
  refine lv_iload_n hx hb dX1_saveTo_4 rfl (lv_at hl 2 rfl) ?_
  refine lv_aload_n hx hb dX1_saveTo_5 rfl (lv_at hl 1 rfl) ?_
  refine va_alen (v := 132) hx hb hE.1 hP 0 1 rfl rfl rfl dX1_saveTo_6 ?_
  refine lv_bipush (v := 44) hx hb dX1_saveTo_7 (by decide) ?_
  refine lv_idiv hx hb dX1_saveTo_9 (by decide) ?_
  refine tI (y := 3) (by decide) ?_
  refine lv_icmp_ge (tgt := 28) hx hb dX1_saveTo_10 (by decide) (fun c0 => absurd c0 (by decide)) (fun _ => ?_)
  refine lv_aload_n hx hb dX1_saveTo_13 rfl (lv_at hl 0 rfl) ?_
  refine va_get (D := (dC, dI)) (ci := 1) (v := .ref h2) (C := RX1) (T := TX1) (N := 2) hx hb hts inB_1 hown hE.1 hP 1 rfl rfl 1 (by decide) (hts _ k_319) (fun _ h9 => h9) rfl dX1_saveTo_14 ?_
  refine lv_iconst (v := 0) hx hb dX1_saveTo_17 (by decide) ?_
  refine lv_aload_n hx hb dX1_saveTo_18 rfl (lv_at hl 1 rfl) ?_
  refine lv_iload_n hx hb dX1_saveTo_19 rfl (lv_at hl 2 rfl) ?_
  refine lv_bipush (v := 44) hx hb dX1_saveTo_20 (by decide) ?_
  refine lv_imul hx hb dX1_saveTo_22 ?_
  refine tI (y := 88) (by decide) ?_
  refine lv_bipush (v := 44) hx hb dX1_saveTo_23 (by decide) ?_
  refine cpI (n := 44) (sp := 0) (dp := 88) (kn := 44) (ks := 0) (kd := 88) hx hb (by rw [hml]; exact hl.1.symm) hown (hts _ k_335) (hts _ k_337) (hts _ k_336) (hts _ k_108) hE hP hD hS 2 0 rfl rfl rfl rfl rfl (by decide) (by decide) (Nat.le_of_ble_eq_true rfl) (Nat.le_of_ble_eq_true rfl) dX1_saveTo_25 (fun H locs hP hD hS => ?_)
  have hP : va_P (dC, dI) vwCl [(h0, .inl (cy 1, 132, .inl (va_cpy f1 f0 0 88 44))), (h1, .inr (1, [.ref b0, .ref h2])), (h2, .inl (cy 1, 44, .inl f1))] H := hP
  have hD : va_D A [(h0, .inl (cy 1, 132, .inl (va_cpy f1 f0 0 88 44))), (h1, .inr (1, [.ref b0, .ref h2])), (h2, .inl (cy 1, 44, .inl f1))] := hD
  exact ret () _ _ _ _ _ _ trivial (hP.sub [0, 1, 2] rfl) (hD.sub [0, 1, 2] (by decide) rfl) hS dX1_saveTo_28 (Nat.le_of_ble_eq_true rfl) (Nat.le_of_ble_eq_true rfl)
set_option maxHeartbeats 4000000 in
set_option maxRecDepth 100000 in
theorem cnX5_fillBox_3 (l : Launch) (dC : Nat → ClassId) (dI : Nat → Nat → Nat) (cy : Nat → ClassId) (h0 : Nat) (h1 : Nat) (h2 : Nat) (h3 : Nat) (b0 : Nat) (f0 : Nat → Int32) (b1 : Nat) (f1 : Nat → Int32) : ctI l (dC, dI) cy yX5_fillBox cX5_fillBox 2 .boolean 2 122 0 0 Unit [.ref h0, .int 2] [(h0, .inr (5, [.ref h2, .ref b0, .ref h1, .int 0, .int 0, .int 0, .int 0])), (h1, .inl (cy 1, 132, .inl f0)), (h2, .inr (1, [.ref b1, .ref h3])), (h3, .inl (cy 1, 44, .inl f1))] (fun r _ => r = 1) (fun u => [(h0, .inr (5, [.ref h2, .ref b0, .ref h1, .int 4, .int 0, .int 0, .int 0])), (h1, .inl (cy 1, 132, .inl (va_cpy f1 f0 0 88 44))), (h2, .inr (1, [.ref b1, .ref h3])), (h3, .inl (cy 1, 44, .inl f1))]) := by
  refine ctI_of (by decide) (Nat.le_of_ble_eq_true rfl) (fun p e s m below meth c A ls Q hx hb hml hts hown hE hP hD hA hl ret => ?_)
  have hown : s.vm.findClass RX5 = some m.cls := hown
  have hS : va_S A s.heap s.heap [] := va_S.rf
  have hl : lv_has ls 2 [(0, .ref h0), (1, .int 2)] := hl
  refine lv_iload_n hx hb dX5_fillBox_0 rfl (lv_at hl 1 rfl) ?_
  refine lv_if_lt (tgt := 9) hx hb dX5_fillBox_1 (by decide) (fun c0 => absurd c0 (by decide)) (fun _ => ?_)
  refine lv_iload_n hx hb dX5_fillBox_4 rfl (lv_at hl 1 rfl) ?_
  refine lv_iconst (v := 3) hx hb dX5_fillBox_5 (by decide) ?_
  refine lv_icmp_lt (tgt := 11) hx hb dX5_fillBox_6 (by decide) (fun _ => ?_) (fun c0 => absurd (by decide) c0)
  refine lv_aload_n hx hb dX5_fillBox_11 rfl (lv_at hl 0 rfl) ?_
  refine va_get (D := (dC, dI)) (ci := 5) (v := .ref h2) (C := RX5) (T := TX5) (N := 7) hx hb hts inB_5 hown hE.1 hP 0 rfl rfl 0 (by decide) (hts _ k_338) (fun _ h9 => h9) rfl dX5_fillBox_12 ?_
  refine lv_aload_n hx hb dX5_fillBox_15 rfl (lv_at hl 0 rfl) ?_
  refine va_get (D := (dC, dI)) (ci := 5) (v := .ref h1) (C := RX5) (T := TX5) (N := 7) hx hb hts inB_5 hown hE.1 hP 0 rfl rfl 2 (by decide) (hts _ k_340) (fun _ h9 => h9) rfl dX5_fillBox_16 ?_
  refine lv_iload_n hx hb dX5_fillBox_19 rfl (lv_at hl 1 rfl) ?_
  refine caVv (n := 2) (wr := [(h0, .inr (5, [.ref h2, .ref b0, .ref h1, .int 0, .int 0, .int 0, .int 0]))]) (rest := []) hx hb hml hown hts hE hP hD hS hA (cnX1_saveTo_5 l dC dI cy h1 h2 h3 f0 b1 f1) k_331 k_332 k_333 k_106 k_334 (by decide +kernel) ⟨Nat.le_of_ble_eq_true rfl, Nat.le_of_ble_eq_true rfl⟩ [1, 2, 3] [0] rfl rfl rfl (by decide) (by decide) (by decide) 1 1 rfl rfl rfl hl.1 rfl (Nat.le_of_ble_eq_true rfl) dX5_fillBox_20 ⟨Nat.le_of_ble_eq_true rfl, Nat.le_of_ble_eq_true rfl⟩ (fun u H locs hw hP hD hS => ?_)
  have hP : va_P (dC, dI) vwCl [(h0, .inr (5, [.ref h2, .ref b0, .ref h1, .int 0, .int 0, .int 0, .int 0])), (h1, .inl (cy 1, 132, .inl (va_cpy f1 f0 0 88 44))), (h2, .inr (1, [.ref b1, .ref h3])), (h3, .inl (cy 1, 44, .inl f1))] H := hP
  have hD : va_D A [(h0, .inr (5, [.ref h2, .ref b0, .ref h1, .int 0, .int 0, .int 0, .int 0])), (h1, .inl (cy 1, 132, .inl (va_cpy f1 f0 0 88 44))), (h2, .inr (1, [.ref b1, .ref h3])), (h3, .inl (cy 1, 44, .inl f1))] := hD
  refine lv_aload_n hx hb dX5_fillBox_23 rfl (lv_at hl 0 rfl) ?_
  refine lv_dup hx hb dX5_fillBox_24 rfl ?_
  refine va_get (D := (dC, dI)) (ci := 5) (v := .int 0) (C := RX5) (T := TX5) (N := 7) hx hb hts inB_5 hown hE.1 hP 0 rfl rfl 3 (by decide) (hts _ k_341) (fun _ h9 => h9) rfl dX5_fillBox_25 ?_
  refine lv_iconst (v := 1) hx hb dX5_fillBox_28 (by decide) ?_
  refine lv_iload_n hx hb dX5_fillBox_29 rfl (lv_at hl 1 rfl) ?_
  refine lv_ishl hx hb dX5_fillBox_30 ?_
  refine tI (y := 4) (by decide) ?_
  refine lv_ior hx hb dX5_fillBox_31 ?_
  refine tI (y := 4) (by decide) ?_
  refine va_put (D := (dC, dI)) (ci := 5) (v := .int 4) (ty := tyX5 3) (C := RX5) (T := TX5) (N := 7) hx hb hts inB_5 tyX5 tyX5_ok nmX5 hown hE.1 hP hD hS 0 rfl rfl 3 (by decide) (hts _ k_341) (fun _ h9 => h9) rfl (tyX5_ok 3 (by decide)) rfl rfl (Nat.le_of_ble_eq_true rfl) dX5_fillBox_32 (fun H locs hP hD hS => ?_)
  have hP : va_P (dC, dI) vwCl [(h0, .inr (5, [.ref h2, .ref b0, .ref h1, .int 4, .int 0, .int 0, .int 0])), (h1, .inl (cy 1, 132, .inl (va_cpy f1 f0 0 88 44))), (h2, .inr (1, [.ref b1, .ref h3])), (h3, .inl (cy 1, 44, .inl f1))] H := hP
  have hD : va_D A [(h0, .inr (5, [.ref h2, .ref b0, .ref h1, .int 4, .int 0, .int 0, .int 0])), (h1, .inl (cy 1, 132, .inl (va_cpy f1 f0 0 88 44))), (h2, .inr (1, [.ref b1, .ref h3])), (h3, .inl (cy 1, 44, .inl f1))] := hD
  refine lv_iconst (v := 1) hx hb dX5_fillBox_35 (by decide) ?_
  exact ret 1 () _ _ _ _ _ _ rfl rfl (hP.sub [0, 1, 2, 3] rfl) (hD.sub [0, 1, 2, 3] (by decide) rfl) hS dX5_fillBox_36 (Nat.le_of_ble_eq_true rfl) (Nat.le_of_ble_eq_true rfl)
theorem po_X5_fillBox_526 (p1 : Int32) (hv : ¬ (0 ≤ p1 ∧ p1 ≤ 2)) (c1 : ¬ p1 < 0) : ¬ p1 < 3 := by simp only [fa_lt, fa_le, fa_eq, tl_0, tl_2, tl_3] at *; omega
set_option maxHeartbeats 4000000 in
set_option maxRecDepth 100000 in
theorem cnX5_fillBox_4 (l : Launch) (dC : Nat → ClassId) (dI : Nat → Nat → Nat) (cy : Nat → ClassId) (h0 : Nat) (b0 : Nat) (b1 : Nat) (b2 : Nat) (p1 : Int32) (hv : ¬ (0 ≤ p1 ∧ p1 ≤ 2)) : ctI l (dC, dI) cy yX5_fillBox cX5_fillBox 2 .boolean 1 60 0 0 Unit [.ref h0, .int p1] [(h0, .inr (5, [.ref b0, .ref b1, .ref b2, .int 0, .int 0, .int 0, .int 0]))] (fun r _ => r = 0) (fun u => [(h0, .inr (5, [.ref b0, .ref b1, .ref b2, .int 0, .int 0, .int 0, .int 0]))]) := by
  refine ctI_of (by decide) (Nat.le_of_ble_eq_true rfl) (fun p e s m below meth c A ls Q hx hb hml hts hown hE hP hD hA hl ret => ?_)
  have hown : s.vm.findClass RX5 = some m.cls := hown
  have hS : va_S A s.heap s.heap [] := va_S.rf
  have hl : lv_has ls 2 [(0, .ref h0), (1, .int p1)] := hl
  refine lv_iload_n hx hb dX5_fillBox_0 rfl (lv_at hl 1 rfl) ?_
  refine lv_if_lt (tgt := 9) hx hb dX5_fillBox_1 (by decide) (fun c1 => ?_) (fun c1 => ?_)
  · skip
    refine lv_iconst (v := 0) hx hb dX5_fillBox_9 (by decide) ?_
    exact ret 0 () _ _ _ _ _ _ rfl rfl (hP.sub [0] rfl) (hD.sub [0] (by decide) rfl) hS dX5_fillBox_10 (Nat.le_of_ble_eq_true rfl) (Nat.le_of_ble_eq_true rfl)
  · skip
    refine lv_iload_n hx hb dX5_fillBox_4 rfl (lv_at hl 1 rfl) ?_
    refine lv_iconst (v := 3) hx hb dX5_fillBox_5 (by decide) ?_
    refine lv_icmp_lt (tgt := 11) hx hb dX5_fillBox_6 (by decide) (fun c0 => absurd c0 (po_X5_fillBox_526 p1 hv c1)) (fun _ => ?_)
    refine lv_iconst (v := 0) hx hb dX5_fillBox_9 (by decide) ?_
    exact ret 0 () _ _ _ _ _ _ rfl rfl (hP.sub [0] rfl) (hD.sub [0] (by decide) rfl) hS dX5_fillBox_10 (Nat.le_of_ble_eq_true rfl) (Nat.le_of_ble_eq_true rfl)
theorem pt_X10_image_527 : (0 : Int32) = F_image 0 := by
  unfold F_image
  (repeat' split)
  all_goals first | rfl | assumption | (exfalso; simp only [fa_lt, fa_le, fa_eq, tl_m1, tl_0, tl_2, show (0 : Int32).toInt = 0 from by decide] at *; omega) | (simp only [fa_lt, fa_le, fa_eq, tl_m1, tl_0, tl_2, show (0 : Int32).toInt = 0 from by decide] at *; omega)
theorem pt_X10_image_528 : (0 : Int32) = F_image 1 := by
  unfold F_image
  (repeat' split)
  all_goals first | rfl | assumption | (exfalso; simp only [fa_lt, fa_le, fa_eq, tl_m1, tl_0, tl_2, show (1 : Int32).toInt = 1 from by decide] at *; omega) | (simp only [fa_lt, fa_le, fa_eq, tl_m1, tl_0, tl_2, show (1 : Int32).toInt = 1 from by decide] at *; omega)
theorem po_X10_image_529 (p1 : Int32) (c1 : 0 ≤ p1 ∧ p1 ≤ 2) (c1 : 0 ≤ p1 ∧ p1 ≤ 2) (c2 : ¬ p1 = 0) (c3 : ¬ p1 = 1) : p1 = 2 := by simp only [fa_lt, fa_le, fa_eq, tl_0, tl_1, tl_2] at *; omega
theorem pt_X10_image_530 : (0 : Int32) = F_image 2 := by
  unfold F_image
  (repeat' split)
  all_goals first | rfl | assumption | (exfalso; simp only [fa_lt, fa_le, fa_eq, tl_m1, tl_0, tl_2, show (2 : Int32).toInt = 2 from by decide] at *; omega) | (simp only [fa_lt, fa_le, fa_eq, tl_m1, tl_0, tl_2, show (2 : Int32).toInt = 2 from by decide] at *; omega)
theorem pt_X10_image_531 (p1 : Int32) (c1 : ¬ (0 ≤ p1 ∧ p1 ≤ 2)) : ((-1) : Int32) = F_image p1 := by
  unfold F_image
  (repeat' split)
  all_goals first | rfl | assumption | (exfalso; simp only [fa_lt, fa_le, fa_eq, tl_m1, tl_0, tl_2] at *; omega) | (simp only [fa_lt, fa_le, fa_eq, tl_m1, tl_0, tl_2] at *; omega)
set_option maxHeartbeats 4000000 in
set_option maxRecDepth 100000 in
theorem cnX10_image_1 (l : Launch) (dC : Nat → ClassId) (dI : Nat → Nat → Nat) (cy : Nat → ClassId) (h0 : Nat) (h1 : Nat) (h2 : Nat) (h3 : Nat) (h4 : Nat) (b0 : Nat) (b1 : Nat) (b2 : Nat) (b3 : Nat) (b4 : Nat) (b5 : Nat) (b6 : Nat) (b7 : Nat) (f0 : Nat → Int32) (p1 : Int32) : ctI l (dC, dI) cy yX10_image cX10_image 2 .int 3 143 0 0 Unit [.ref h0, .int p1] [(h0, .inr (10, [.ref b0, .ref b1, .ref b2, .ref h3, .ref h1, .ref b3, .ref b4, .ref b5, .ref b6, .int 0])), (h1, .inr (5, [.ref h3, .ref b7, .ref h2, .int 0, .int 0, .int 0, .int 0])), (h2, .inl (cy 1, 132, .inl f0)), (h3, .inr (1, [.ref b2, .ref h4])), (h4, .inl (cy 1, 44, .inl cF))] (fun r _ => r = F_image p1) (fun u => []) := by
  refine ctI_of (by decide) (Nat.le_of_ble_eq_true rfl) (fun p e s m below meth c A ls Q hx hb hml hts hown hE hP hD hA hl ret => ?_)
  have hown : s.vm.findClass RX10 = some m.cls := hown
  have hS : va_S A s.heap s.heap [] := va_S.rf
  have hl : lv_has ls 2 [(0, .ref h0), (1, .int p1)] := hl
  refine lv_aload_n hx hb dX10_image_0 rfl (lv_at hl 0 rfl) ?_
  refine va_get (D := (dC, dI)) (ci := 10) (v := .ref h1) (C := RX10) (T := TX10) (N := 10) hx hb hts inB_10 hown hE.1 hP 0 rfl rfl 4 (by decide) (hts _ k_495) (fun _ h9 => h9) rfl dX10_image_1 ?_
  refine lv_iload_n hx hb dX10_image_4 rfl (lv_at hl 1 rfl) ?_
  by_cases c1 : (0 ≤ p1 ∧ p1 ≤ 2)
  · skip
    by_cases c2 : p1 = 0
    · skip
      subst c2
      refine caVi (n := 1) (wr := [(h0, .inr (10, [.ref b0, .ref b1, .ref b2, .ref h3, .ref h1, .ref b3, .ref b4, .ref b5, .ref b6, .int 0]))]) (rest := []) hx hb hml hown hts hE hP hD hS hA (cnX5_fillBox_1 l dC dI cy h1 h2 h3 h4 b7 f0 b2 cF) k_1294 k_1295 k_1296 k_107 k_1297 (by decide +kernel) ⟨Nat.le_of_ble_eq_true rfl, Nat.le_of_ble_eq_true rfl⟩ [1, 2, 3, 4] [0] rfl rfl rfl (by decide) (by decide) (by decide) 0 5 rfl rfl rfl hl.1 rfl (Nat.le_of_ble_eq_true rfl) dX10_image_5 ⟨Nat.le_of_ble_eq_true rfl, Nat.le_of_ble_eq_true rfl⟩ (fun rr u H locs hw hP hD hS => ?_)
      have hP : va_P (dC, dI) vwCl [(h0, .inr (10, [.ref b0, .ref b1, .ref b2, .ref h3, .ref h1, .ref b3, .ref b4, .ref b5, .ref b6, .int 0])), (h1, .inr (5, [.ref h3, .ref b7, .ref h2, .int 1, .int 0, .int 0, .int 0])), (h2, .inl (cy 1, 132, .inl (va_cpy cF f0 0 0 44))), (h3, .inr (1, [.ref b2, .ref h4])), (h4, .inl (cy 1, 44, .inl cF))] H := hP
      have hD : va_D A [(h0, .inr (10, [.ref b0, .ref b1, .ref b2, .ref h3, .ref h1, .ref b3, .ref b4, .ref b5, .ref b6, .int 0])), (h1, .inr (5, [.ref h3, .ref b7, .ref h2, .int 1, .int 0, .int 0, .int 0])), (h2, .inl (cy 1, 132, .inl (va_cpy cF f0 0 0 44))), (h3, .inr (1, [.ref b2, .ref h4])), (h4, .inl (cy 1, 44, .inl cF))] := hD
      refine tI (y := 1) hw ?_
      refine lv_if_eq (tgt := 21) hx hb dX10_image_8 (by decide) (fun c0 => absurd c0 (by decide)) (fun _ => ?_)
      refine lv_aload_n hx hb dX10_image_11 rfl (lv_at hl 0 rfl) ?_
      refine va_get (D := (dC, dI)) (ci := 10) (v := .ref h3) (C := RX10) (T := TX10) (N := 10) hx hb hts inB_10 hown hE.1 hP 0 rfl rfl 3 (by decide) (hts _ k_494) (fun _ h9 => h9) rfl dX10_image_12 ?_
      refine caVi (n := 0) (wr := [(h0, .inr (10, [.ref b0, .ref b1, .ref b2, .ref h3, .ref h1, .ref b3, .ref b4, .ref b5, .ref b6, .int 0])), (h1, .inr (5, [.ref h3, .ref b7, .ref h2, .int 1, .int 0, .int 0, .int 0])), (h2, .inl (cy 1, 132, .inl (va_cpy cF f0 0 0 44)))]) (rest := []) hx hb hml hown hts hE hP hD hS hA (cnX1_today_1 l dC dI cy h3 h4 b2) k_864 k_832 k_833 k_106 k_834 (by decide +kernel) ⟨Nat.le_of_ble_eq_true rfl, Nat.le_of_ble_eq_true rfl⟩ [3, 4] [0, 1, 2] rfl rfl rfl (by decide) (by decide) (by decide) 0 1 rfl rfl rfl hl.1 rfl (Nat.le_of_ble_eq_true rfl) dX10_image_15 ⟨Nat.le_of_ble_eq_true rfl, Nat.le_of_ble_eq_true rfl⟩ (fun rr u H locs hw hP hD hS => ?_)
      have hP : va_P (dC, dI) vwCl [(h0, .inr (10, [.ref b0, .ref b1, .ref b2, .ref h3, .ref h1, .ref b3, .ref b4, .ref b5, .ref b6, .int 0])), (h1, .inr (5, [.ref h3, .ref b7, .ref h2, .int 1, .int 0, .int 0, .int 0])), (h2, .inl (cy 1, 132, .inl (va_cpy cF f0 0 0 44))), (h3, .inr (1, [.ref b2, .ref h4])), (h4, .inl (cy 1, 44, .inl cF))] H := hP
      have hD : va_D A [(h0, .inr (10, [.ref b0, .ref b1, .ref b2, .ref h3, .ref h1, .ref b3, .ref b4, .ref b5, .ref b6, .int 0])), (h1, .inr (5, [.ref h3, .ref b7, .ref h2, .int 1, .int 0, .int 0, .int 0])), (h2, .inl (cy 1, 132, .inl (va_cpy cF f0 0 0 44))), (h3, .inr (1, [.ref b2, .ref h4])), (h4, .inl (cy 1, 44, .inl cF))] := hD
      refine tI (y := 0) hw ?_
      refine lv_goto (tgt := 22) hx hb dX10_image_18 (by decide) ?_
      exact ret 0 () _ _ _ _ _ _ rfl (pt_X10_image_527 ) (hP.sub [] rfl) (hD.sub [] (by decide) rfl) hS dX10_image_22 (Nat.le_of_ble_eq_true rfl) (Nat.le_of_ble_eq_true rfl)
    · skip
      by_cases c3 : p1 = 1
      · skip
        subst c3
        refine caVi (n := 1) (wr := [(h0, .inr (10, [.ref b0, .ref b1, .ref b2, .ref h3, .ref h1, .ref b3, .ref b4, .ref b5, .ref b6, .int 0]))]) (rest := []) hx hb hml hown hts hE hP hD hS hA (cnX5_fillBox_2 l dC dI cy h1 h2 h3 h4 b7 f0 b2 cF) k_1294 k_1295 k_1296 k_107 k_1297 (by decide +kernel) ⟨Nat.le_of_ble_eq_true rfl, Nat.le_of_ble_eq_true rfl⟩ [1, 2, 3, 4] [0] rfl rfl rfl (by decide) (by decide) (by decide) 0 5 rfl rfl rfl hl.1 rfl (Nat.le_of_ble_eq_true rfl) dX10_image_5 ⟨Nat.le_of_ble_eq_true rfl, Nat.le_of_ble_eq_true rfl⟩ (fun rr u H locs hw hP hD hS => ?_)
        have hP : va_P (dC, dI) vwCl [(h0, .inr (10, [.ref b0, .ref b1, .ref b2, .ref h3, .ref h1, .ref b3, .ref b4, .ref b5, .ref b6, .int 0])), (h1, .inr (5, [.ref h3, .ref b7, .ref h2, .int 2, .int 0, .int 0, .int 0])), (h2, .inl (cy 1, 132, .inl (va_cpy cF f0 0 44 44))), (h3, .inr (1, [.ref b2, .ref h4])), (h4, .inl (cy 1, 44, .inl cF))] H := hP
        have hD : va_D A [(h0, .inr (10, [.ref b0, .ref b1, .ref b2, .ref h3, .ref h1, .ref b3, .ref b4, .ref b5, .ref b6, .int 0])), (h1, .inr (5, [.ref h3, .ref b7, .ref h2, .int 2, .int 0, .int 0, .int 0])), (h2, .inl (cy 1, 132, .inl (va_cpy cF f0 0 44 44))), (h3, .inr (1, [.ref b2, .ref h4])), (h4, .inl (cy 1, 44, .inl cF))] := hD
        refine tI (y := 1) hw ?_
        refine lv_if_eq (tgt := 21) hx hb dX10_image_8 (by decide) (fun c0 => absurd c0 (by decide)) (fun _ => ?_)
        refine lv_aload_n hx hb dX10_image_11 rfl (lv_at hl 0 rfl) ?_
        refine va_get (D := (dC, dI)) (ci := 10) (v := .ref h3) (C := RX10) (T := TX10) (N := 10) hx hb hts inB_10 hown hE.1 hP 0 rfl rfl 3 (by decide) (hts _ k_494) (fun _ h9 => h9) rfl dX10_image_12 ?_
        refine caVi (n := 0) (wr := [(h0, .inr (10, [.ref b0, .ref b1, .ref b2, .ref h3, .ref h1, .ref b3, .ref b4, .ref b5, .ref b6, .int 0])), (h1, .inr (5, [.ref h3, .ref b7, .ref h2, .int 2, .int 0, .int 0, .int 0])), (h2, .inl (cy 1, 132, .inl (va_cpy cF f0 0 44 44)))]) (rest := []) hx hb hml hown hts hE hP hD hS hA (cnX1_today_1 l dC dI cy h3 h4 b2) k_864 k_832 k_833 k_106 k_834 (by decide +kernel) ⟨Nat.le_of_ble_eq_true rfl, Nat.le_of_ble_eq_true rfl⟩ [3, 4] [0, 1, 2] rfl rfl rfl (by decide) (by decide) (by decide) 0 1 rfl rfl rfl hl.1 rfl (Nat.le_of_ble_eq_true rfl) dX10_image_15 ⟨Nat.le_of_ble_eq_true rfl, Nat.le_of_ble_eq_true rfl⟩ (fun rr u H locs hw hP hD hS => ?_)
        have hP : va_P (dC, dI) vwCl [(h0, .inr (10, [.ref b0, .ref b1, .ref b2, .ref h3, .ref h1, .ref b3, .ref b4, .ref b5, .ref b6, .int 0])), (h1, .inr (5, [.ref h3, .ref b7, .ref h2, .int 2, .int 0, .int 0, .int 0])), (h2, .inl (cy 1, 132, .inl (va_cpy cF f0 0 44 44))), (h3, .inr (1, [.ref b2, .ref h4])), (h4, .inl (cy 1, 44, .inl cF))] H := hP
        have hD : va_D A [(h0, .inr (10, [.ref b0, .ref b1, .ref b2, .ref h3, .ref h1, .ref b3, .ref b4, .ref b5, .ref b6, .int 0])), (h1, .inr (5, [.ref h3, .ref b7, .ref h2, .int 2, .int 0, .int 0, .int 0])), (h2, .inl (cy 1, 132, .inl (va_cpy cF f0 0 44 44))), (h3, .inr (1, [.ref b2, .ref h4])), (h4, .inl (cy 1, 44, .inl cF))] := hD
        refine tI (y := 0) hw ?_
        refine lv_goto (tgt := 22) hx hb dX10_image_18 (by decide) ?_
        exact ret 0 () _ _ _ _ _ _ rfl (pt_X10_image_528 ) (hP.sub [] rfl) (hD.sub [] (by decide) rfl) hS dX10_image_22 (Nat.le_of_ble_eq_true rfl) (Nat.le_of_ble_eq_true rfl)
      · skip
        have c4 : p1 = 2 := (po_X10_image_529 p1 c1 c1 c2 c3)
        subst c4
        refine caVi (n := 1) (wr := [(h0, .inr (10, [.ref b0, .ref b1, .ref b2, .ref h3, .ref h1, .ref b3, .ref b4, .ref b5, .ref b6, .int 0]))]) (rest := []) hx hb hml hown hts hE hP hD hS hA (cnX5_fillBox_3 l dC dI cy h1 h2 h3 h4 b7 f0 b2 cF) k_1294 k_1295 k_1296 k_107 k_1297 (by decide +kernel) ⟨Nat.le_of_ble_eq_true rfl, Nat.le_of_ble_eq_true rfl⟩ [1, 2, 3, 4] [0] rfl rfl rfl (by decide) (by decide) (by decide) 0 5 rfl rfl rfl hl.1 rfl (Nat.le_of_ble_eq_true rfl) dX10_image_5 ⟨Nat.le_of_ble_eq_true rfl, Nat.le_of_ble_eq_true rfl⟩ (fun rr u H locs hw hP hD hS => ?_)
        have hP : va_P (dC, dI) vwCl [(h0, .inr (10, [.ref b0, .ref b1, .ref b2, .ref h3, .ref h1, .ref b3, .ref b4, .ref b5, .ref b6, .int 0])), (h1, .inr (5, [.ref h3, .ref b7, .ref h2, .int 4, .int 0, .int 0, .int 0])), (h2, .inl (cy 1, 132, .inl (va_cpy cF f0 0 88 44))), (h3, .inr (1, [.ref b2, .ref h4])), (h4, .inl (cy 1, 44, .inl cF))] H := hP
        have hD : va_D A [(h0, .inr (10, [.ref b0, .ref b1, .ref b2, .ref h3, .ref h1, .ref b3, .ref b4, .ref b5, .ref b6, .int 0])), (h1, .inr (5, [.ref h3, .ref b7, .ref h2, .int 4, .int 0, .int 0, .int 0])), (h2, .inl (cy 1, 132, .inl (va_cpy cF f0 0 88 44))), (h3, .inr (1, [.ref b2, .ref h4])), (h4, .inl (cy 1, 44, .inl cF))] := hD
        refine tI (y := 1) hw ?_
        refine lv_if_eq (tgt := 21) hx hb dX10_image_8 (by decide) (fun c0 => absurd c0 (by decide)) (fun _ => ?_)
        refine lv_aload_n hx hb dX10_image_11 rfl (lv_at hl 0 rfl) ?_
        refine va_get (D := (dC, dI)) (ci := 10) (v := .ref h3) (C := RX10) (T := TX10) (N := 10) hx hb hts inB_10 hown hE.1 hP 0 rfl rfl 3 (by decide) (hts _ k_494) (fun _ h9 => h9) rfl dX10_image_12 ?_
        refine caVi (n := 0) (wr := [(h0, .inr (10, [.ref b0, .ref b1, .ref b2, .ref h3, .ref h1, .ref b3, .ref b4, .ref b5, .ref b6, .int 0])), (h1, .inr (5, [.ref h3, .ref b7, .ref h2, .int 4, .int 0, .int 0, .int 0])), (h2, .inl (cy 1, 132, .inl (va_cpy cF f0 0 88 44)))]) (rest := []) hx hb hml hown hts hE hP hD hS hA (cnX1_today_1 l dC dI cy h3 h4 b2) k_864 k_832 k_833 k_106 k_834 (by decide +kernel) ⟨Nat.le_of_ble_eq_true rfl, Nat.le_of_ble_eq_true rfl⟩ [3, 4] [0, 1, 2] rfl rfl rfl (by decide) (by decide) (by decide) 0 1 rfl rfl rfl hl.1 rfl (Nat.le_of_ble_eq_true rfl) dX10_image_15 ⟨Nat.le_of_ble_eq_true rfl, Nat.le_of_ble_eq_true rfl⟩ (fun rr u H locs hw hP hD hS => ?_)
        have hP : va_P (dC, dI) vwCl [(h0, .inr (10, [.ref b0, .ref b1, .ref b2, .ref h3, .ref h1, .ref b3, .ref b4, .ref b5, .ref b6, .int 0])), (h1, .inr (5, [.ref h3, .ref b7, .ref h2, .int 4, .int 0, .int 0, .int 0])), (h2, .inl (cy 1, 132, .inl (va_cpy cF f0 0 88 44))), (h3, .inr (1, [.ref b2, .ref h4])), (h4, .inl (cy 1, 44, .inl cF))] H := hP
        have hD : va_D A [(h0, .inr (10, [.ref b0, .ref b1, .ref b2, .ref h3, .ref h1, .ref b3, .ref b4, .ref b5, .ref b6, .int 0])), (h1, .inr (5, [.ref h3, .ref b7, .ref h2, .int 4, .int 0, .int 0, .int 0])), (h2, .inl (cy 1, 132, .inl (va_cpy cF f0 0 88 44))), (h3, .inr (1, [.ref b2, .ref h4])), (h4, .inl (cy 1, 44, .inl cF))] := hD
        refine tI (y := 0) hw ?_
        refine lv_goto (tgt := 22) hx hb dX10_image_18 (by decide) ?_
        exact ret 0 () _ _ _ _ _ _ rfl (pt_X10_image_530 ) (hP.sub [] rfl) (hD.sub [] (by decide) rfl) hS dX10_image_22 (Nat.le_of_ble_eq_true rfl) (Nat.le_of_ble_eq_true rfl)
  · skip
    refine caVi (n := 1) (wr := [(h0, .inr (10, [.ref b0, .ref b1, .ref b2, .ref h3, .ref h1, .ref b3, .ref b4, .ref b5, .ref b6, .int 0])), (h2, .inl (cy 1, 132, .inl f0)), (h3, .inr (1, [.ref b2, .ref h4])), (h4, .inl (cy 1, 44, .inl cF))]) (rest := []) hx hb hml hown hts hE hP hD hS hA (cnX5_fillBox_4 l dC dI cy h1 h3 b7 h2 p1 c1) k_1294 k_1295 k_1296 k_107 k_1297 (by decide +kernel) ⟨Nat.le_of_ble_eq_true rfl, Nat.le_of_ble_eq_true rfl⟩ [1] [0, 2, 3, 4] rfl rfl rfl (by decide) (by decide) (by decide) 0 5 rfl rfl rfl hl.1 rfl (Nat.le_of_ble_eq_true rfl) dX10_image_5 ⟨Nat.le_of_ble_eq_true rfl, Nat.le_of_ble_eq_true rfl⟩ (fun rr u H locs hw hP hD hS => ?_)
    have hP : va_P (dC, dI) vwCl [(h0, .inr (10, [.ref b0, .ref b1, .ref b2, .ref h3, .ref h1, .ref b3, .ref b4, .ref b5, .ref b6, .int 0])), (h2, .inl (cy 1, 132, .inl f0)), (h3, .inr (1, [.ref b2, .ref h4])), (h4, .inl (cy 1, 44, .inl cF)), (h1, .inr (5, [.ref h3, .ref b7, .ref h2, .int 0, .int 0, .int 0, .int 0]))] H := hP
    have hD : va_D A [(h0, .inr (10, [.ref b0, .ref b1, .ref b2, .ref h3, .ref h1, .ref b3, .ref b4, .ref b5, .ref b6, .int 0])), (h2, .inl (cy 1, 132, .inl f0)), (h3, .inr (1, [.ref b2, .ref h4])), (h4, .inl (cy 1, 44, .inl cF)), (h1, .inr (5, [.ref h3, .ref b7, .ref h2, .int 0, .int 0, .int 0, .int 0]))] := hD
    refine tI (y := 0) hw ?_
    refine lv_if_eq (tgt := 21) hx hb dX10_image_8 (by decide) (fun _ => ?_) (fun c0 => absurd (by decide) c0)
    refine lv_iconst (v := (-1)) hx hb dX10_image_21 (by decide) ?_
    exact ret (-1) () _ _ _ _ _ _ rfl (pt_X10_image_531 p1 c1) (hP.sub [] rfl) (hD.sub [] (by decide) rfl) hS dX10_image_22 (Nat.le_of_ble_eq_true rfl) (Nat.le_of_ble_eq_true rfl)
theorem po_X11_isBox_532 (p0 : Int32) (hv : 0 ≤ p0 ∧ p0 ≤ 2) (hv : 0 ≤ p0 ∧ p0 ≤ 2) : ¬ p0 < 0 := by simp only [fa_lt, fa_le, fa_eq, tl_0, tl_2] at *; omega
theorem po_X11_isBox_533 (p0 : Int32) (hv : 0 ≤ p0 ∧ p0 ≤ 2) (hv : 0 ≤ p0 ∧ p0 ≤ 2) : ¬ 3 ≤ p0 := by simp only [fa_lt, fa_le, fa_eq, tl_0, tl_2, tl_3] at *; omega
set_option maxHeartbeats 4000000 in
set_option maxRecDepth 100000 in
theorem cnX11_isBox_1 (l : Launch) (dC : Nat → ClassId) (dI : Nat → Nat → Nat) (cy : Nat → ClassId) (p0 : Int32) (hv : 0 ≤ p0 ∧ p0 ≤ 2) : ctI l (dC, dI) cy yX11_isBox cX11_isBox 1 .boolean 1 60 0 0 Unit [.int p0] [] (fun r _ => r = 1) (fun u => []) := by
  refine ctI_of (by decide) (Nat.le_of_ble_eq_true rfl) (fun p e s m below meth c A ls Q hx hb hml hts hown hE hP hD hA hl ret => ?_)
  have hown : s.vm.findClass RX11 = some m.cls := hown
  have hS : va_S A s.heap s.heap [] := va_S.rf
  have hl : lv_has ls 1 [(0, .int p0)] := hl
  refine lv_iload_n hx hb dX11_isBox_0 rfl (lv_at hl 0 rfl) ?_
  refine lv_if_lt (tgt := 13) hx hb dX11_isBox_1 (by decide) (fun c0 => absurd c0 (po_X11_isBox_532 p0 hv hv)) (fun _ => ?_)
  refine lv_iload_n hx hb dX11_isBox_4 rfl (lv_at hl 0 rfl) ?_
  refine lv_iconst (v := 3) hx hb dX11_isBox_5 (by decide) ?_
  refine lv_icmp_ge (tgt := 13) hx hb dX11_isBox_6 (by decide) (fun c0 => absurd c0 (po_X11_isBox_533 p0 hv hv)) (fun _ => ?_)
  refine lv_iconst (v := 1) hx hb dX11_isBox_9 (by decide) ?_
  refine lv_goto (tgt := 14) hx hb dX11_isBox_10 (by decide) ?_
  exact ret 1 () _ _ _ _ _ _ rfl rfl (hP.sub [] rfl) (hD.sub [] (by decide) rfl) hS dX11_isBox_14 (Nat.le_of_ble_eq_true rfl) (Nat.le_of_ble_eq_true rfl)
theorem po_X11_isBox_540 (p0 : Int32) (hv : ¬ (0 ≤ p0 ∧ p0 ≤ 2)) (c1 : ¬ p0 < 0) : 3 ≤ p0 := by simp only [fa_lt, fa_le, fa_eq, tl_0, tl_2, tl_3] at *; omega
set_option maxHeartbeats 4000000 in
set_option maxRecDepth 100000 in
theorem cnX11_isBox_2 (l : Launch) (dC : Nat → ClassId) (dI : Nat → Nat → Nat) (cy : Nat → ClassId) (p0 : Int32) (hv : ¬ (0 ≤ p0 ∧ p0 ≤ 2)) : ctI l (dC, dI) cy yX11_isBox cX11_isBox 1 .boolean 1 60 0 0 Unit [.int p0] [] (fun r _ => r = 0) (fun u => []) := by
  refine ctI_of (by decide) (Nat.le_of_ble_eq_true rfl) (fun p e s m below meth c A ls Q hx hb hml hts hown hE hP hD hA hl ret => ?_)
  have hown : s.vm.findClass RX11 = some m.cls := hown
  have hS : va_S A s.heap s.heap [] := va_S.rf
  have hl : lv_has ls 1 [(0, .int p0)] := hl
  refine lv_iload_n hx hb dX11_isBox_0 rfl (lv_at hl 0 rfl) ?_
  refine lv_if_lt (tgt := 13) hx hb dX11_isBox_1 (by decide) (fun c1 => ?_) (fun c1 => ?_)
  · skip
    refine lv_iconst (v := 0) hx hb dX11_isBox_13 (by decide) ?_
    exact ret 0 () _ _ _ _ _ _ rfl rfl (hP.sub [] rfl) (hD.sub [] (by decide) rfl) hS dX11_isBox_14 (Nat.le_of_ble_eq_true rfl) (Nat.le_of_ble_eq_true rfl)
  · skip
    refine lv_iload_n hx hb dX11_isBox_4 rfl (lv_at hl 0 rfl) ?_
    refine lv_iconst (v := 3) hx hb dX11_isBox_5 (by decide) ?_
    refine lv_icmp_ge (tgt := 13) hx hb dX11_isBox_6 (by decide) (fun _ => ?_) (fun c0 => absurd (po_X11_isBox_540 p0 hv c1) c0)
    refine lv_iconst (v := 0) hx hb dX11_isBox_13 (by decide) ?_
    exact ret 0 () _ _ _ _ _ _ rfl rfl (hP.sub [] rfl) (hD.sub [] (by decide) rfl) hS dX11_isBox_14 (Nat.le_of_ble_eq_true rfl) (Nat.le_of_ble_eq_true rfl)
theorem po_X11_image_547 (i3 : Nat) (gi3 : 0 ≤ i3) (hi3 : i3 ≤ 39) (c4 : 39 ≤ (nI (i3))) : i3 = 39 := by have ti_0 : (nI (i3)).toInt = (((i3 : Nat)) : Int) := nI_toInt (by omega); simp only [fa_lt, fa_le, fa_eq, tl_39, ti_0] at *; omega
theorem pt_X11_image_548 : (0 : Int32) = F_image 0 := by
  unfold F_image
  (repeat' split)
  all_goals first | rfl | assumption | (exfalso; simp only [fa_lt, fa_le, fa_eq, tl_m1, tl_0, tl_2, show (0 : Int32).toInt = 0 from by decide] at *; omega) | (simp only [fa_lt, fa_le, fa_eq, tl_m1, tl_0, tl_2, show (0 : Int32).toInt = 0 from by decide] at *; omega)
theorem po_X11_image_549 (i3 : Nat) (gi3 : 0 ≤ i3) (hi3 : i3 ≤ 39) (c4 : ¬ 39 ≤ (nI (i3))) : i3 < 39 := by have ti_0 : (nI (i3)).toInt = (((i3 : Nat)) : Int) := nI_toInt (by omega); simp only [fa_lt, fa_le, fa_eq, tl_39, ti_0] at *; omega
theorem po_X11_image_550 (i6 : Nat) (gi6 : 0 ≤ i6) (hi6 : i6 ≤ 39) (c7 : 39 ≤ (nI (i6))) : i6 = 39 := by have ti_0 : (nI (i6)).toInt = (((i6 : Nat)) : Int) := nI_toInt (by omega); simp only [fa_lt, fa_le, fa_eq, tl_39, ti_0] at *; omega
theorem pt_X11_image_551 : (0 : Int32) = F_image 1 := by
  unfold F_image
  (repeat' split)
  all_goals first | rfl | assumption | (exfalso; simp only [fa_lt, fa_le, fa_eq, tl_m1, tl_0, tl_2, show (1 : Int32).toInt = 1 from by decide] at *; omega) | (simp only [fa_lt, fa_le, fa_eq, tl_m1, tl_0, tl_2, show (1 : Int32).toInt = 1 from by decide] at *; omega)
theorem po_X11_image_552 (i6 : Nat) (gi6 : 0 ≤ i6) (hi6 : i6 ≤ 39) (c7 : ¬ 39 ≤ (nI (i6))) : i6 < 39 := by have ti_0 : (nI (i6)).toInt = (((i6 : Nat)) : Int) := nI_toInt (by omega); simp only [fa_lt, fa_le, fa_eq, tl_39, ti_0] at *; omega
theorem po_X11_image_553 (p1 : Int32) (c1 : 0 ≤ p1 ∧ p1 ≤ 2) (c1 : 0 ≤ p1 ∧ p1 ≤ 2) (c2 : ¬ p1 = 0) (c5 : ¬ p1 = 1) : p1 = 2 := by simp only [fa_lt, fa_le, fa_eq, tl_0, tl_1, tl_2] at *; omega
theorem po_X11_image_554 (i9 : Nat) (gi9 : 0 ≤ i9) (hi9 : i9 ≤ 39) (c10 : 39 ≤ (nI (i9))) : i9 = 39 := by have ti_0 : (nI (i9)).toInt = (((i9 : Nat)) : Int) := nI_toInt (by omega); simp only [fa_lt, fa_le, fa_eq, tl_39, ti_0] at *; omega
theorem pt_X11_image_555 : (0 : Int32) = F_image 2 := by
  unfold F_image
  (repeat' split)
  all_goals first | rfl | assumption | (exfalso; simp only [fa_lt, fa_le, fa_eq, tl_m1, tl_0, tl_2, show (2 : Int32).toInt = 2 from by decide] at *; omega) | (simp only [fa_lt, fa_le, fa_eq, tl_m1, tl_0, tl_2, show (2 : Int32).toInt = 2 from by decide] at *; omega)
theorem po_X11_image_556 (i9 : Nat) (gi9 : 0 ≤ i9) (hi9 : i9 ≤ 39) (c10 : ¬ 39 ≤ (nI (i9))) : i9 < 39 := by have ti_0 : (nI (i9)).toInt = (((i9 : Nat)) : Int) := nI_toInt (by omega); simp only [fa_lt, fa_le, fa_eq, tl_39, ti_0] at *; omega
theorem pt_X11_image_557 (p1 : Int32) (c1 : ¬ (0 ≤ p1 ∧ p1 ≤ 2)) : ((-1) : Int32) = F_image p1 := by
  unfold F_image
  (repeat' split)
  all_goals first | rfl | assumption | (exfalso; simp only [fa_lt, fa_le, fa_eq, tl_m1, tl_0, tl_2] at *; omega) | (simp only [fa_lt, fa_le, fa_eq, tl_m1, tl_0, tl_2] at *; omega)
set_option maxHeartbeats 4000000 in
set_option maxRecDepth 100000 in
theorem cnX11_image_1 (l : Launch) (dC : Nat → ClassId) (dI : Nat → Nat → Nat) (cy : Nat → ClassId) (h0 : Nat) (r : Nat → Nat) (f0 : Nat → Int32) (p1 : Int32) : ctI l (dC, dI) cy yX11_image cX11_image 3 .int 2 80 0 0 Unit [.ref h0, .int p1] [(h0, .inr (11, mFs r mv0)), ((r 77), .inl (cy 3, 3, .inl f0)), ((r 59), .inl (cy 1, 39, .inl zF)), ((r 78), .inl (cy 1, 117, .inl zF))] (fun r _ => r = F_image p1) (fun u => []) := by
  refine ctI_of (by decide) (Nat.le_of_ble_eq_true rfl) (fun p e s m below meth c A ls Q hx hb hml hts hown hE hP hD hA hl ret => ?_)
  have hown : s.vm.findClass RX11 = some m.cls := hown
  have hS : va_S A s.heap s.heap [] := va_S.rf
  have hl : lv_has ls 3 [(0, .ref h0), (1, .int p1)] := hl
  refine lv_iload_n hx hb dX11_image_0 rfl (lv_at hl 1 rfl) ?_
  by_cases c1 : (0 ≤ p1 ∧ p1 ≤ 2)
  · skip
    refine caSi (n := 1) (wr := [(h0, .inr (11, mFs r mv0)), ((r 77), .inl (cy 3, 3, .inl f0)), ((r 59), .inl (cy 1, 39, .inl zF)), ((r 78), .inl (cy 1, 117, .inl zF))]) (rest := []) hx hb hml hown hts hE hP hD hS hA (cnX11_isBox_1 l dC dI cy p1 c1) k_2048 k_2049 k_114 k_2050 (by decide +kernel) ⟨Nat.le_of_ble_eq_true rfl, Nat.le_of_ble_eq_true rfl⟩ [] [0, 1, 2, 3] rfl rfl rfl (by decide) (by decide) (by decide) rfl hl.1 rfl (Nat.le_of_ble_eq_true rfl) dX11_image_1 ⟨Nat.le_of_ble_eq_true rfl, Nat.le_of_ble_eq_true rfl⟩ (fun rr u H locs hw hP hD hS => ?_)
    have hP : va_P (dC, dI) vwCl [(h0, .inr (11, mFs r mv0)), ((r 77), .inl (cy 3, 3, .inl f0)), ((r 59), .inl (cy 1, 39, .inl zF)), ((r 78), .inl (cy 1, 117, .inl zF))] H := hP
    have hD : va_D A [(h0, .inr (11, mFs r mv0)), ((r 77), .inl (cy 3, 3, .inl f0)), ((r 59), .inl (cy 1, 39, .inl zF)), ((r 78), .inl (cy 1, 117, .inl zF))] := hD
    refine tI (y := 1) hw ?_
    refine lv_if_ne (tgt := 9) hx hb dX11_image_4 (by decide) (fun _ => ?_) (fun c0 => absurd c0 (by decide))
    refine lv_aload_n hx hb dX11_image_9 rfl (lv_at hl 0 rfl) ?_
    refine va_get (D := (dC, dI)) (ci := 11) (v := .ref (r 77)) (C := RX11) (T := TX11) (N := 79) hx hb hts inB_11 hown hE.1 hP 0 rfl rfl 77 (by decide) (hts _ k_1397) (fun _ h9 => h9) rfl dX11_image_10 ?_
    refine lv_iload_n hx hb dX11_image_13 rfl (lv_at hl 1 rfl) ?_
    refine lv_iconst (v := 1) hx hb dX11_image_14 (by decide) ?_
    by_cases c2 : p1 = 0
    · skip
      subst c2
      refine stZ (k := 0) hx hb hE hP hD hS 1 rfl (vp_in_nI (n := 0) (by decide) (by decide)) (nI_clamp (n := 0) (by decide)) dX11_image_15 (fun H locs hP hD hS => ?_)
      have hP : va_P (dC, dI) vwCl [(h0, .inr (11, mFs r mv0)), ((r 77), .inl (cy 3, 3, .inl (upd f0 0 (vp_nar .boolean 1)))), ((r 59), .inl (cy 1, 39, .inl zF)), ((r 78), .inl (cy 1, 117, .inl zF))] H := hP
      have hD : va_D A [(h0, .inr (11, mFs r mv0)), ((r 77), .inl (cy 3, 3, .inl (upd f0 0 (vp_nar .boolean 1)))), ((r 59), .inl (cy 1, 39, .inl zF)), ((r 78), .inl (cy 1, 117, .inl zF))] := hD
      refine lv_iconst (v := 0) hx hb dX11_image_16 (by decide) ?_
      refine lv_istore_n (lv' := [(2, .int 0), (0, .ref h0), (1, .int 0)]) hx hb dX11_image_17 rfl hl (by decide) rfl (fun ls hl => ?_)
      have lp3 : ∀ (n i3 : Nat), 0 ≤ i3 → i3 ≤ 39 → 39 < i3 + n → ∀ (H : Heap) (locs : List Loc) (ls : Array Slot), va_P (dC, dI) vwCl [(h0, .inr (11, mFs r mv0)), ((r 77), .inl (cy 3, 3, .inl (upd f0 0 (vp_nar .boolean 1)))), ((r 59), .inl (cy 1, 39, .inl zF)), ((r 78), .inl (cy 1, 117, .inl zF))] H → va_D A [(h0, .inr (11, mFs r mv0)), ((r 77), .inl (cy 3, 3, .inl (upd f0 0 (vp_nar .boolean 1)))), ((r 59), .inl (cy 1, 39, .inl zF)), ((r 78), .inl (cy 1, 117, .inl zF))] → va_S A s.heap H locs → lv_has ls 3 [(2, .int (nI (i3))), (0, .ref h0), (1, .int 0)] → W p l e { frames := 2, cells := 0, slots := 0, locals := 80 } s m ([.ref h0, .int 0] : List Value).toArray below meth c H locs 0 0 Q (F0 m 18 ls []) := by
        intro n
        induction n with
        | zero => intro i3 h0 h1 h2; exact absurd h2 (by omega)
        | succ n ih3 =>
          intro i3 hloi3 hi3 hin H locs ls hP hD hS hl
          refine lv_iload_n hx hb dX11_image_18 rfl (lv_at hl 0 rfl) ?_
          refine lv_bipush (v := 39) hx hb dX11_image_19 (by decide) ?_
          refine lv_icmp_ge (tgt := 47) hx hb dX11_image_21 (by decide) (fun c4 => ?_) (fun c4 => ?_)
          · skip
            have hsi3 : i3 = 39 := (po_X11_image_547 i3 hloi3 hi3 c4)
            subst hsi3
            refine lv_aload_n hx hb dX11_image_47 rfl (lv_at hl 1 rfl) ?_
            refine va_get (D := (dC, dI)) (ci := 11) (v := .ref (r 59)) (C := RX11) (T := TX11) (N := 79) hx hb hts inB_11 hown hE.1 hP 0 rfl rfl 59 (by decide) (hts _ k_1379) (fun _ h9 => h9) rfl dX11_image_48 ?_
            refine lv_bipush (v := 37) hx hb dX11_image_51 (by decide) ?_
            refine ldI (k := 37) (v := 0) hx hb hE hP 2 rfl (vp_in_nI (n := 37) (by decide) (by decide)) (nI_clamp (n := 37) (by decide)) rfl dX11_image_53 ?_
            exact ret 0 () _ _ _ _ _ _ rfl (pt_X11_image_548 ) (hP.sub [] rfl) (hD.sub [] (by decide) rfl) hS dX11_image_54 (Nat.le_of_ble_eq_true rfl) (Nat.le_of_ble_eq_true rfl)
          · skip
            have hsi3 : i3 < 39 := (po_X11_image_549 i3 hloi3 hi3 c4)
            refine lv_aload_n hx hb dX11_image_24 rfl (lv_at hl 1 rfl) ?_
            refine va_get (D := (dC, dI)) (ci := 11) (v := .ref (r 78)) (C := RX11) (T := TX11) (N := 79) hx hb hts inB_11 hown hE.1 hP 0 rfl rfl 78 (by decide) (hts _ k_1398) (fun _ h9 => h9) rfl dX11_image_25 ?_
            refine lv_bipush (v := 39) hx hb dX11_image_28 (by decide) ?_
            refine lv_iload_n hx hb dX11_image_30 rfl (lv_at hl 2 rfl) ?_
            refine lv_imul hx hb dX11_image_31 ?_
            refine tI (y := 0) (by decide) ?_
            refine lv_iload_n hx hb dX11_image_32 rfl (lv_at hl 0 rfl) ?_
            refine lv_iadd hx hb dX11_image_33 ?_
            refine tI (y := (nI ((0) + (i3)))) (nI_add (0) (i3)) ?_
            refine lv_aload_n hx hb dX11_image_34 rfl (lv_at hl 1 rfl) ?_
            refine va_get (D := (dC, dI)) (ci := 11) (v := .ref (r 59)) (C := RX11) (T := TX11) (N := 79) hx hb hts inB_11 hown hE.1 hP 0 rfl rfl 59 (by decide) (hts _ k_1379) (fun _ h9 => h9) rfl dX11_image_35 ?_
            refine lv_iload_n hx hb dX11_image_38 rfl (lv_at hl 0 rfl) ?_
            refine ldI (k := (i3)) (v := 0) hx hb hE hP 2 rfl (vp_in_nI (by omega) (by decide)) (nI_clamp (by omega)) rfl dX11_image_39 ?_
            refine stI (k := ((0) + (i3))) hx hb hE hP hD hS 3 rfl (vp_in_nI (by omega) (by decide)) (nI_clamp (by omega)) dX11_image_40 (fun H locs hP hD hS => ?_)
            have eU : upd zF ((0) + (i3)) 0 = zF := upd_same rfl
            rw [eU] at hP hD
            have hP : va_P (dC, dI) vwCl [(h0, .inr (11, mFs r mv0)), ((r 77), .inl (cy 3, 3, .inl (upd f0 0 (vp_nar .boolean 1)))), ((r 59), .inl (cy 1, 39, .inl zF)), ((r 78), .inl (cy 1, 117, .inl zF))] H := hP
            have hD : va_D A [(h0, .inr (11, mFs r mv0)), ((r 77), .inl (cy 3, 3, .inl (upd f0 0 (vp_nar .boolean 1)))), ((r 59), .inl (cy 1, 39, .inl zF)), ((r 78), .inl (cy 1, 117, .inl zF))] := hD
            refine lv_iinc (v := (nI (i3 + 1))) (lv' := [(2, .int (nI (i3 + 1))), (0, .ref h0), (1, .int 0)]) hx hb dX11_image_41 hl (k := 0) rfl (nI_1 (i3)) (by decide) rfl (fun ls hl => ?_)
            refine lv_goto (tgt := 18) hx hb dX11_image_44 (by decide) ?_
            exact ih3 (i3 + 1) (by omega) (by omega) (by omega) _ _ _ (hP.sub [0, 1, 2, 3] rfl) (hD.sub [0, 1, 2, 3] (by decide) rfl) hS (lv_sub hl [0, 1, 2] rfl)
      exact lp3 40 0 (by decide) (by decide) (by decide) _ _ _ (hP.sub [0, 1, 2, 3] rfl) (hD.sub [0, 1, 2, 3] (by decide) rfl) hS (lv_sub hl [0, 1, 2] rfl)
    · skip
      by_cases c5 : p1 = 1
      · skip
        subst c5
        refine stZ (k := 1) hx hb hE hP hD hS 1 rfl (vp_in_nI (n := 1) (by decide) (by decide)) (nI_clamp (n := 1) (by decide)) dX11_image_15 (fun H locs hP hD hS => ?_)
        have hP : va_P (dC, dI) vwCl [(h0, .inr (11, mFs r mv0)), ((r 77), .inl (cy 3, 3, .inl (upd f0 1 (vp_nar .boolean 1)))), ((r 59), .inl (cy 1, 39, .inl zF)), ((r 78), .inl (cy 1, 117, .inl zF))] H := hP
        have hD : va_D A [(h0, .inr (11, mFs r mv0)), ((r 77), .inl (cy 3, 3, .inl (upd f0 1 (vp_nar .boolean 1)))), ((r 59), .inl (cy 1, 39, .inl zF)), ((r 78), .inl (cy 1, 117, .inl zF))] := hD
        refine lv_iconst (v := 0) hx hb dX11_image_16 (by decide) ?_
        refine lv_istore_n (lv' := [(2, .int 0), (0, .ref h0), (1, .int 1)]) hx hb dX11_image_17 rfl hl (by decide) rfl (fun ls hl => ?_)
        have lp6 : ∀ (n i6 : Nat), 0 ≤ i6 → i6 ≤ 39 → 39 < i6 + n → ∀ (H : Heap) (locs : List Loc) (ls : Array Slot), va_P (dC, dI) vwCl [(h0, .inr (11, mFs r mv0)), ((r 77), .inl (cy 3, 3, .inl (upd f0 1 (vp_nar .boolean 1)))), ((r 59), .inl (cy 1, 39, .inl zF)), ((r 78), .inl (cy 1, 117, .inl zF))] H → va_D A [(h0, .inr (11, mFs r mv0)), ((r 77), .inl (cy 3, 3, .inl (upd f0 1 (vp_nar .boolean 1)))), ((r 59), .inl (cy 1, 39, .inl zF)), ((r 78), .inl (cy 1, 117, .inl zF))] → va_S A s.heap H locs → lv_has ls 3 [(2, .int (nI (i6))), (0, .ref h0), (1, .int 1)] → W p l e { frames := 2, cells := 0, slots := 0, locals := 80 } s m ([.ref h0, .int 1] : List Value).toArray below meth c H locs 0 0 Q (F0 m 18 ls []) := by
          intro n
          induction n with
          | zero => intro i6 h0 h1 h2; exact absurd h2 (by omega)
          | succ n ih6 =>
            intro i6 hloi6 hi6 hin H locs ls hP hD hS hl
            refine lv_iload_n hx hb dX11_image_18 rfl (lv_at hl 0 rfl) ?_
            refine lv_bipush (v := 39) hx hb dX11_image_19 (by decide) ?_
            refine lv_icmp_ge (tgt := 47) hx hb dX11_image_21 (by decide) (fun c7 => ?_) (fun c7 => ?_)
            · skip
              have hsi6 : i6 = 39 := (po_X11_image_550 i6 hloi6 hi6 c7)
              subst hsi6
              refine lv_aload_n hx hb dX11_image_47 rfl (lv_at hl 1 rfl) ?_
              refine va_get (D := (dC, dI)) (ci := 11) (v := .ref (r 59)) (C := RX11) (T := TX11) (N := 79) hx hb hts inB_11 hown hE.1 hP 0 rfl rfl 59 (by decide) (hts _ k_1379) (fun _ h9 => h9) rfl dX11_image_48 ?_
              refine lv_bipush (v := 37) hx hb dX11_image_51 (by decide) ?_
              refine ldI (k := 37) (v := 0) hx hb hE hP 2 rfl (vp_in_nI (n := 37) (by decide) (by decide)) (nI_clamp (n := 37) (by decide)) rfl dX11_image_53 ?_
              exact ret 0 () _ _ _ _ _ _ rfl (pt_X11_image_551 ) (hP.sub [] rfl) (hD.sub [] (by decide) rfl) hS dX11_image_54 (Nat.le_of_ble_eq_true rfl) (Nat.le_of_ble_eq_true rfl)
            · skip
              have hsi6 : i6 < 39 := (po_X11_image_552 i6 hloi6 hi6 c7)
              refine lv_aload_n hx hb dX11_image_24 rfl (lv_at hl 1 rfl) ?_
              refine va_get (D := (dC, dI)) (ci := 11) (v := .ref (r 78)) (C := RX11) (T := TX11) (N := 79) hx hb hts inB_11 hown hE.1 hP 0 rfl rfl 78 (by decide) (hts _ k_1398) (fun _ h9 => h9) rfl dX11_image_25 ?_
              refine lv_bipush (v := 39) hx hb dX11_image_28 (by decide) ?_
              refine lv_iload_n hx hb dX11_image_30 rfl (lv_at hl 2 rfl) ?_
              refine lv_imul hx hb dX11_image_31 ?_
              refine tI (y := 39) (by decide) ?_
              refine lv_iload_n hx hb dX11_image_32 rfl (lv_at hl 0 rfl) ?_
              refine lv_iadd hx hb dX11_image_33 ?_
              refine tI (y := (nI ((39) + (i6)))) (nI_add (39) (i6)) ?_
              refine lv_aload_n hx hb dX11_image_34 rfl (lv_at hl 1 rfl) ?_
              refine va_get (D := (dC, dI)) (ci := 11) (v := .ref (r 59)) (C := RX11) (T := TX11) (N := 79) hx hb hts inB_11 hown hE.1 hP 0 rfl rfl 59 (by decide) (hts _ k_1379) (fun _ h9 => h9) rfl dX11_image_35 ?_
              refine lv_iload_n hx hb dX11_image_38 rfl (lv_at hl 0 rfl) ?_
              refine ldI (k := (i6)) (v := 0) hx hb hE hP 2 rfl (vp_in_nI (by omega) (by decide)) (nI_clamp (by omega)) rfl dX11_image_39 ?_
              refine stI (k := ((39) + (i6))) hx hb hE hP hD hS 3 rfl (vp_in_nI (by omega) (by decide)) (nI_clamp (by omega)) dX11_image_40 (fun H locs hP hD hS => ?_)
              have eU : upd zF ((39) + (i6)) 0 = zF := upd_same rfl
              rw [eU] at hP hD
              have hP : va_P (dC, dI) vwCl [(h0, .inr (11, mFs r mv0)), ((r 77), .inl (cy 3, 3, .inl (upd f0 1 (vp_nar .boolean 1)))), ((r 59), .inl (cy 1, 39, .inl zF)), ((r 78), .inl (cy 1, 117, .inl zF))] H := hP
              have hD : va_D A [(h0, .inr (11, mFs r mv0)), ((r 77), .inl (cy 3, 3, .inl (upd f0 1 (vp_nar .boolean 1)))), ((r 59), .inl (cy 1, 39, .inl zF)), ((r 78), .inl (cy 1, 117, .inl zF))] := hD
              refine lv_iinc (v := (nI (i6 + 1))) (lv' := [(2, .int (nI (i6 + 1))), (0, .ref h0), (1, .int 1)]) hx hb dX11_image_41 hl (k := 0) rfl (nI_1 (i6)) (by decide) rfl (fun ls hl => ?_)
              refine lv_goto (tgt := 18) hx hb dX11_image_44 (by decide) ?_
              exact ih6 (i6 + 1) (by omega) (by omega) (by omega) _ _ _ (hP.sub [0, 1, 2, 3] rfl) (hD.sub [0, 1, 2, 3] (by decide) rfl) hS (lv_sub hl [0, 1, 2] rfl)
        exact lp6 40 0 (by decide) (by decide) (by decide) _ _ _ (hP.sub [0, 1, 2, 3] rfl) (hD.sub [0, 1, 2, 3] (by decide) rfl) hS (lv_sub hl [0, 1, 2] rfl)
      · skip
        have c8 : p1 = 2 := (po_X11_image_553 p1 c1 c1 c2 c5)
        subst c8
        refine stZ (k := 2) hx hb hE hP hD hS 1 rfl (vp_in_nI (n := 2) (by decide) (by decide)) (nI_clamp (n := 2) (by decide)) dX11_image_15 (fun H locs hP hD hS => ?_)
        have hP : va_P (dC, dI) vwCl [(h0, .inr (11, mFs r mv0)), ((r 77), .inl (cy 3, 3, .inl (upd f0 2 (vp_nar .boolean 1)))), ((r 59), .inl (cy 1, 39, .inl zF)), ((r 78), .inl (cy 1, 117, .inl zF))] H := hP
        have hD : va_D A [(h0, .inr (11, mFs r mv0)), ((r 77), .inl (cy 3, 3, .inl (upd f0 2 (vp_nar .boolean 1)))), ((r 59), .inl (cy 1, 39, .inl zF)), ((r 78), .inl (cy 1, 117, .inl zF))] := hD
        refine lv_iconst (v := 0) hx hb dX11_image_16 (by decide) ?_
        refine lv_istore_n (lv' := [(2, .int 0), (0, .ref h0), (1, .int 2)]) hx hb dX11_image_17 rfl hl (by decide) rfl (fun ls hl => ?_)
        have lp9 : ∀ (n i9 : Nat), 0 ≤ i9 → i9 ≤ 39 → 39 < i9 + n → ∀ (H : Heap) (locs : List Loc) (ls : Array Slot), va_P (dC, dI) vwCl [(h0, .inr (11, mFs r mv0)), ((r 77), .inl (cy 3, 3, .inl (upd f0 2 (vp_nar .boolean 1)))), ((r 59), .inl (cy 1, 39, .inl zF)), ((r 78), .inl (cy 1, 117, .inl zF))] H → va_D A [(h0, .inr (11, mFs r mv0)), ((r 77), .inl (cy 3, 3, .inl (upd f0 2 (vp_nar .boolean 1)))), ((r 59), .inl (cy 1, 39, .inl zF)), ((r 78), .inl (cy 1, 117, .inl zF))] → va_S A s.heap H locs → lv_has ls 3 [(2, .int (nI (i9))), (0, .ref h0), (1, .int 2)] → W p l e { frames := 2, cells := 0, slots := 0, locals := 80 } s m ([.ref h0, .int 2] : List Value).toArray below meth c H locs 0 0 Q (F0 m 18 ls []) := by
          intro n
          induction n with
          | zero => intro i9 h0 h1 h2; exact absurd h2 (by omega)
          | succ n ih9 =>
            intro i9 hloi9 hi9 hin H locs ls hP hD hS hl
            refine lv_iload_n hx hb dX11_image_18 rfl (lv_at hl 0 rfl) ?_
            refine lv_bipush (v := 39) hx hb dX11_image_19 (by decide) ?_
            refine lv_icmp_ge (tgt := 47) hx hb dX11_image_21 (by decide) (fun c10 => ?_) (fun c10 => ?_)
            · skip
              have hsi9 : i9 = 39 := (po_X11_image_554 i9 hloi9 hi9 c10)
              subst hsi9
              refine lv_aload_n hx hb dX11_image_47 rfl (lv_at hl 1 rfl) ?_
              refine va_get (D := (dC, dI)) (ci := 11) (v := .ref (r 59)) (C := RX11) (T := TX11) (N := 79) hx hb hts inB_11 hown hE.1 hP 0 rfl rfl 59 (by decide) (hts _ k_1379) (fun _ h9 => h9) rfl dX11_image_48 ?_
              refine lv_bipush (v := 37) hx hb dX11_image_51 (by decide) ?_
              refine ldI (k := 37) (v := 0) hx hb hE hP 2 rfl (vp_in_nI (n := 37) (by decide) (by decide)) (nI_clamp (n := 37) (by decide)) rfl dX11_image_53 ?_
              exact ret 0 () _ _ _ _ _ _ rfl (pt_X11_image_555 ) (hP.sub [] rfl) (hD.sub [] (by decide) rfl) hS dX11_image_54 (Nat.le_of_ble_eq_true rfl) (Nat.le_of_ble_eq_true rfl)
            · skip
              have hsi9 : i9 < 39 := (po_X11_image_556 i9 hloi9 hi9 c10)
              refine lv_aload_n hx hb dX11_image_24 rfl (lv_at hl 1 rfl) ?_
              refine va_get (D := (dC, dI)) (ci := 11) (v := .ref (r 78)) (C := RX11) (T := TX11) (N := 79) hx hb hts inB_11 hown hE.1 hP 0 rfl rfl 78 (by decide) (hts _ k_1398) (fun _ h9 => h9) rfl dX11_image_25 ?_
              refine lv_bipush (v := 39) hx hb dX11_image_28 (by decide) ?_
              refine lv_iload_n hx hb dX11_image_30 rfl (lv_at hl 2 rfl) ?_
              refine lv_imul hx hb dX11_image_31 ?_
              refine tI (y := 78) (by decide) ?_
              refine lv_iload_n hx hb dX11_image_32 rfl (lv_at hl 0 rfl) ?_
              refine lv_iadd hx hb dX11_image_33 ?_
              refine tI (y := (nI ((78) + (i9)))) (nI_add (78) (i9)) ?_
              refine lv_aload_n hx hb dX11_image_34 rfl (lv_at hl 1 rfl) ?_
              refine va_get (D := (dC, dI)) (ci := 11) (v := .ref (r 59)) (C := RX11) (T := TX11) (N := 79) hx hb hts inB_11 hown hE.1 hP 0 rfl rfl 59 (by decide) (hts _ k_1379) (fun _ h9 => h9) rfl dX11_image_35 ?_
              refine lv_iload_n hx hb dX11_image_38 rfl (lv_at hl 0 rfl) ?_
              refine ldI (k := (i9)) (v := 0) hx hb hE hP 2 rfl (vp_in_nI (by omega) (by decide)) (nI_clamp (by omega)) rfl dX11_image_39 ?_
              refine stI (k := ((78) + (i9))) hx hb hE hP hD hS 3 rfl (vp_in_nI (by omega) (by decide)) (nI_clamp (by omega)) dX11_image_40 (fun H locs hP hD hS => ?_)
              have eU : upd zF ((78) + (i9)) 0 = zF := upd_same rfl
              rw [eU] at hP hD
              have hP : va_P (dC, dI) vwCl [(h0, .inr (11, mFs r mv0)), ((r 77), .inl (cy 3, 3, .inl (upd f0 2 (vp_nar .boolean 1)))), ((r 59), .inl (cy 1, 39, .inl zF)), ((r 78), .inl (cy 1, 117, .inl zF))] H := hP
              have hD : va_D A [(h0, .inr (11, mFs r mv0)), ((r 77), .inl (cy 3, 3, .inl (upd f0 2 (vp_nar .boolean 1)))), ((r 59), .inl (cy 1, 39, .inl zF)), ((r 78), .inl (cy 1, 117, .inl zF))] := hD
              refine lv_iinc (v := (nI (i9 + 1))) (lv' := [(2, .int (nI (i9 + 1))), (0, .ref h0), (1, .int 2)]) hx hb dX11_image_41 hl (k := 0) rfl (nI_1 (i9)) (by decide) rfl (fun ls hl => ?_)
              refine lv_goto (tgt := 18) hx hb dX11_image_44 (by decide) ?_
              exact ih9 (i9 + 1) (by omega) (by omega) (by omega) _ _ _ (hP.sub [0, 1, 2, 3] rfl) (hD.sub [0, 1, 2, 3] (by decide) rfl) hS (lv_sub hl [0, 1, 2] rfl)
        exact lp9 40 0 (by decide) (by decide) (by decide) _ _ _ (hP.sub [0, 1, 2, 3] rfl) (hD.sub [0, 1, 2, 3] (by decide) rfl) hS (lv_sub hl [0, 1, 2] rfl)
  · skip
    refine caSi (n := 1) (wr := [(h0, .inr (11, mFs r mv0)), ((r 77), .inl (cy 3, 3, .inl f0)), ((r 59), .inl (cy 1, 39, .inl zF)), ((r 78), .inl (cy 1, 117, .inl zF))]) (rest := []) hx hb hml hown hts hE hP hD hS hA (cnX11_isBox_2 l dC dI cy p1 c1) k_2048 k_2049 k_114 k_2050 (by decide +kernel) ⟨Nat.le_of_ble_eq_true rfl, Nat.le_of_ble_eq_true rfl⟩ [] [0, 1, 2, 3] rfl rfl rfl (by decide) (by decide) (by decide) rfl hl.1 rfl (Nat.le_of_ble_eq_true rfl) dX11_image_1 ⟨Nat.le_of_ble_eq_true rfl, Nat.le_of_ble_eq_true rfl⟩ (fun rr u H locs hw hP hD hS => ?_)
    have hP : va_P (dC, dI) vwCl [(h0, .inr (11, mFs r mv0)), ((r 77), .inl (cy 3, 3, .inl f0)), ((r 59), .inl (cy 1, 39, .inl zF)), ((r 78), .inl (cy 1, 117, .inl zF))] H := hP
    have hD : va_D A [(h0, .inr (11, mFs r mv0)), ((r 77), .inl (cy 3, 3, .inl f0)), ((r 59), .inl (cy 1, 39, .inl zF)), ((r 78), .inl (cy 1, 117, .inl zF))] := hD
    refine tI (y := 0) hw ?_
    refine lv_if_ne (tgt := 9) hx hb dX11_image_4 (by decide) (fun c0 => absurd (by decide) c0) (fun _ => ?_)
    refine lv_iconst (v := (-1)) hx hb dX11_image_7 (by decide) ?_
    exact ret (-1) () _ _ _ _ _ _ rfl (pt_X11_image_557 p1 c1) (hP.sub [] rfl) (hD.sub [] (by decide) rfl) hS dX11_image_8 (Nat.le_of_ble_eq_true rfl) (Nat.le_of_ble_eq_true rfl)
theorem po_X5_takeBox_558 (p1 : Int32) (c1 : ¬ p1 < 0) (c2 : ¬ 3 ≤ p1) (c3 : ¬ p1 = 0) (c4 : ¬ p1 = 1) : p1 = 2 := by simp only [fa_lt, fa_le, fa_eq, tl_0, tl_1, tl_2, tl_3] at *; omega
set_option maxHeartbeats 4000000 in
set_option maxRecDepth 100000 in
theorem cnX5_takeBox_1 (l : Launch) (dC : Nat → ClassId) (dI : Nat → Nat → Nat) (cy : Nat → ClassId) (h0 : Nat) (b0 : Nat) (b1 : Nat) (b2 : Nat) (p1 : Int32) : ctI l (dC, dI) cy yX5_takeBox cX5_takeBox 2 .boolean 1 60 0 0 Unit [.ref h0, .int p1] [(h0, .inr (5, [.ref b0, .ref b1, .ref b2, .int 0, .int 0, .int 0, .int 0]))] (fun r _ => r = 0) (fun u => [(h0, .inr (5, [.ref b0, .ref b1, .ref b2, .int 0, .int 0, .int 0, .int 0]))]) := by
  refine ctI_of (by decide) (Nat.le_of_ble_eq_true rfl) (fun p e s m below meth c A ls Q hx hb hml hts hown hE hP hD hA hl ret => ?_)
  have hown : s.vm.findClass RX5 = some m.cls := hown
  have hS : va_S A s.heap s.heap [] := va_S.rf
  have hl : lv_has ls 2 [(0, .ref h0), (1, .int p1)] := hl
  refine lv_iload_n hx hb dX5_takeBox_0 rfl (lv_at hl 1 rfl) ?_
  refine lv_if_lt (tgt := 20) hx hb dX5_takeBox_1 (by decide) (fun c1 => ?_) (fun c1 => ?_)
  · skip
    refine lv_iconst (v := 0) hx hb dX5_takeBox_20 (by decide) ?_
    exact ret 0 () _ _ _ _ _ _ rfl rfl (hP.sub [0] rfl) (hD.sub [0] (by decide) rfl) hS dX5_takeBox_21 (Nat.le_of_ble_eq_true rfl) (Nat.le_of_ble_eq_true rfl)
  · skip
    refine lv_iload_n hx hb dX5_takeBox_4 rfl (lv_at hl 1 rfl) ?_
    refine lv_iconst (v := 3) hx hb dX5_takeBox_5 (by decide) ?_
    refine lv_icmp_ge (tgt := 20) hx hb dX5_takeBox_6 (by decide) (fun c2 => ?_) (fun c2 => ?_)
    · skip
      refine lv_iconst (v := 0) hx hb dX5_takeBox_20 (by decide) ?_
      exact ret 0 () _ _ _ _ _ _ rfl rfl (hP.sub [0] rfl) (hD.sub [0] (by decide) rfl) hS dX5_takeBox_21 (Nat.le_of_ble_eq_true rfl) (Nat.le_of_ble_eq_true rfl)
    · skip
      refine lv_aload_n hx hb dX5_takeBox_9 rfl (lv_at hl 0 rfl) ?_
      refine va_get (D := (dC, dI)) (ci := 5) (v := .int 0) (C := RX5) (T := TX5) (N := 7) hx hb hts inB_5 hown hE.1 hP 0 rfl rfl 3 (by decide) (hts _ k_341) (fun _ h9 => h9) rfl dX5_takeBox_10 ?_
      refine lv_iload_n hx hb dX5_takeBox_13 rfl (lv_at hl 1 rfl) ?_
      by_cases c3 : p1 = 0
      · skip
        subst c3
        refine lv_ishr hx hb dX5_takeBox_14 ?_
        refine tI (y := 0) (by decide) ?_
        refine lv_iconst (v := 1) hx hb dX5_takeBox_15 (by decide) ?_
        refine lv_iand hx hb dX5_takeBox_16 ?_
        refine tI (y := 0) (by decide) ?_
        refine lv_if_ne (tgt := 22) hx hb dX5_takeBox_17 (by decide) (fun c0 => absurd (by decide) c0) (fun _ => ?_)
        refine lv_iconst (v := 0) hx hb dX5_takeBox_20 (by decide) ?_
        exact ret 0 () _ _ _ _ _ _ rfl rfl (hP.sub [0] rfl) (hD.sub [0] (by decide) rfl) hS dX5_takeBox_21 (Nat.le_of_ble_eq_true rfl) (Nat.le_of_ble_eq_true rfl)
      · skip
        by_cases c4 : p1 = 1
        · skip
          subst c4
          refine lv_ishr hx hb dX5_takeBox_14 ?_
          refine tI (y := 0) (by decide) ?_
          refine lv_iconst (v := 1) hx hb dX5_takeBox_15 (by decide) ?_
          refine lv_iand hx hb dX5_takeBox_16 ?_
          refine tI (y := 0) (by decide) ?_
          refine lv_if_ne (tgt := 22) hx hb dX5_takeBox_17 (by decide) (fun c0 => absurd (by decide) c0) (fun _ => ?_)
          refine lv_iconst (v := 0) hx hb dX5_takeBox_20 (by decide) ?_
          exact ret 0 () _ _ _ _ _ _ rfl rfl (hP.sub [0] rfl) (hD.sub [0] (by decide) rfl) hS dX5_takeBox_21 (Nat.le_of_ble_eq_true rfl) (Nat.le_of_ble_eq_true rfl)
        · skip
          have c5 : p1 = 2 := (po_X5_takeBox_558 p1 c1 c2 c3 c4)
          subst c5
          refine lv_ishr hx hb dX5_takeBox_14 ?_
          refine tI (y := 0) (by decide) ?_
          refine lv_iconst (v := 1) hx hb dX5_takeBox_15 (by decide) ?_
          refine lv_iand hx hb dX5_takeBox_16 ?_
          refine tI (y := 0) (by decide) ?_
          refine lv_if_ne (tgt := 22) hx hb dX5_takeBox_17 (by decide) (fun c0 => absurd (by decide) c0) (fun _ => ?_)
          refine lv_iconst (v := 0) hx hb dX5_takeBox_20 (by decide) ?_
          exact ret 0 () _ _ _ _ _ _ rfl rfl (hP.sub [0] rfl) (hD.sub [0] (by decide) rfl) hS dX5_takeBox_21 (Nat.le_of_ble_eq_true rfl) (Nat.le_of_ble_eq_true rfl)
