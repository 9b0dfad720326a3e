set_option maxHeartbeats 4000000 in
set_option maxRecDepth 100000 in
theorem cnJ6_lowestOneBit_0f7a4_1 (l : Launch) (dC : Nat → ClassId) (dI : Nat → Nat → Nat) (cy : Nat → ClassId)  : ctI l (dC, dI) cy yJ6_lowestOneBit_0f7a4 cJ6_lowestOneBit_0f7a4 1 .int 1 60 0 0 Unit [.int 0] [] (fun r _ => r = 0) (fun u => []) := by
  refine ctI_of (by decide) (Nat.le_of_ble_eq_true rfl) (fun p e s m below meth c A ls Q hx hb hml hts hown hE hP hD hA hl ret => ?_)
  have hown : s.vm.findClass RJ6 = some m.cls := hown
  have hS : va_S A s.heap s.heap [] := va_S.rf
  have hl : lv_has ls 1 [(0, .int 0)] := hl
  refine lv_iload_n hx hb dJ6_lowestOneBit_0f7a4_0 rfl (lv_at hl 0 rfl) ?_
  refine lv_iload_n hx hb dJ6_lowestOneBit_0f7a4_1 rfl (lv_at hl 0 rfl) ?_
  refine lv_ineg hx hb dJ6_lowestOneBit_0f7a4_2 ?_
  refine tI (y := 0) (by decide) ?_
  refine lv_iand hx hb dJ6_lowestOneBit_0f7a4_3 ?_
  refine tI (y := 0) (by decide) ?_
  exact ret 0 () _ _ _ _ _ _ rfl rfl (hP.sub [] rfl) (hD.sub [] (by decide) rfl) hS dJ6_lowestOneBit_0f7a4_4 (Nat.le_of_ble_eq_true rfl) (Nat.le_of_ble_eq_true rfl)
set_option maxHeartbeats 4000000 in
set_option maxRecDepth 100000 in
theorem cnX2_difference_1 (l : Launch) (dC : Nat → ClassId) (dI : Nat → Nat → Nat) (cy : Nat → ClassId) (h0 : Nat) (h1 : Nat) (h2 : Nat) (b0 : Nat) (b1 : Nat) (b2 : Nat) (b3 : Nat) (b4 : Nat) : ctI l (dC, dI) cy yX2_difference cX2_difference 2 .int 2 83 0 0 Unit [.ref h0, .int 0] [(h0, .inr (2, [.ref h2, .ref h1, .ref b0])), (h1, .inr (1, [.ref h2, .ref b1])), (h2, .inr (7, [.ref b2, .ref b3, .ref b4, .int 0, .int 0, .int 10, .int 150, .int 2, .int 0, .int 0]))] (fun r _ => r = 0) (fun u => [(h0, .inr (2, [.ref h2, .ref h1, .ref b0])), (h1, .inr (1, [.ref h2, .ref b1])), (h2, .inr (7, [.ref b2, .ref b3, .ref b4, .int 0, .int 0, .int 10, .int 150, .int 2, .int 0, .int 0]))]) := by
  refine ctI_of (by decide) (Nat.le_of_ble_eq_true rfl) (fun p e s m below meth c A ls Q hx hb hml hts hown hE hP hD hA hl ret => ?_)
  have hown : s.vm.findClass RX2 = some m.cls := hown
  have hS : va_S A s.heap s.heap [] := va_S.rf
  have hl : lv_has ls 2 [(0, .ref h0), (1, .int 0)] := hl
  refine lv_aload_n hx hb dX2_difference_0 rfl (lv_at hl 0 rfl) ?_
  refine lv_aload_n hx hb dX2_difference_1 rfl (lv_at hl 0 rfl) ?_
  refine va_get (D := (dC, dI)) (ci := 2) (v := .ref h1) (C := RX2) (T := TX2) (N := 3) hx hb hts inB_2 hown hE.1 hP 0 rfl rfl 1 (by decide) (hts _ k_415) (fun _ h9 => h9) rfl dX2_difference_2 ?_
  refine caVi (n := 0) (wr := [(h0, .inr (2, [.ref h2, .ref h1, .ref b0]))]) (rest := [.ref h0]) hx hb hml hown hts hE hP hD hS hA (cnX1_wearers_1 l dC dI cy h1 h2 b1 b2 b3 b4) k_1060 k_1061 k_1062 k_106 k_1063 (by decide +kernel) ⟨Nat.le_of_ble_eq_true rfl, Nat.le_of_ble_eq_true rfl⟩ [1, 2] [0] rfl rfl rfl (by decide) (by decide) (by decide) 0 1 rfl rfl rfl hl.1 rfl (Nat.le_of_ble_eq_true rfl) dX2_difference_5 ⟨Nat.le_of_ble_eq_true rfl, Nat.le_of_ble_eq_true rfl⟩ (fun rr u H locs hw hP hD hS => ?_)
  have hP : va_P (dC, dI) vwCl [(h0, .inr (2, [.ref h2, .ref h1, .ref b0])), (h1, .inr (1, [.ref h2, .ref b1])), (h2, .inr (7, [.ref b2, .ref b3, .ref b4, .int 0, .int 0, .int 10, .int 150, .int 2, .int 0, .int 0]))] H := hP
  have hD : va_D A [(h0, .inr (2, [.ref h2, .ref h1, .ref b0])), (h1, .inr (1, [.ref h2, .ref b1])), (h2, .inr (7, [.ref b2, .ref b3, .ref b4, .int 0, .int 0, .int 10, .int 150, .int 2, .int 0, .int 0]))] := hD
  refine tI (y := 0) hw ?_
  refine caVi (n := 1) (wr := [(h1, .inr (1, [.ref h2, .ref b1]))]) (rest := []) hx hb hml hown hts hE hP hD hS hA (cnX2_wideTogether_1 l dC dI cy h0 h2 h1 b0 b2 b3 b4) k_1065 k_1066 k_1067 k_110 k_1068 (by decide +kernel) ⟨Nat.le_of_ble_eq_true rfl, Nat.le_of_ble_eq_true rfl⟩ [0, 2] [1] rfl rfl rfl (by decide) (by decide) (by decide) 0 2 rfl rfl rfl hl.1 rfl (Nat.le_of_ble_eq_true rfl) dX2_difference_8 ⟨Nat.le_of_ble_eq_true rfl, Nat.le_of_ble_eq_true rfl⟩ (fun rr u H locs hw hP hD hS => ?_)
  have hP : va_P (dC, dI) vwCl [(h1, .inr (1, [.ref h2, .ref b1])), (h0, .inr (2, [.ref h2, .ref h1, .ref b0])), (h2, .inr (7, [.ref b2, .ref b3, .ref b4, .int 0, .int 0, .int 10, .int 150, .int 2, .int 0, .int 0]))] H := hP
  have hD : va_D A [(h1, .inr (1, [.ref h2, .ref b1])), (h0, .inr (2, [.ref h2, .ref h1, .ref b0])), (h2, .inr (7, [.ref b2, .ref b3, .ref b4, .int 0, .int 0, .int 10, .int 150, .int 2, .int 0, .int 0]))] := hD
  refine tI (y := 0) hw ?_
  refine lv_iconst (v := 2) hx hb dX2_difference_11 (by decide) ?_
  refine lv_aload_n hx hb dX2_difference_12 rfl (lv_at hl 0 rfl) ?_
  refine lv_iload_n hx hb dX2_difference_13 rfl (lv_at hl 1 rfl) ?_
  refine caVi (n := 1) (wr := [(h1, .inr (1, [.ref h2, .ref b1]))]) (rest := [.int 2, .int 0]) hx hb hml hown hts hE hP hD hS hA (cnX2_wideTogether_1 l dC dI cy h0 h2 h1 b0 b2 b3 b4) k_1065 k_1066 k_1067 k_110 k_1068 (by decide +kernel) ⟨Nat.le_of_ble_eq_true rfl, Nat.le_of_ble_eq_true rfl⟩ [1, 2] [0] rfl rfl rfl (by decide) (by decide) (by decide) 0 2 rfl rfl rfl hl.1 rfl (Nat.le_of_ble_eq_true rfl) dX2_difference_14 ⟨Nat.le_of_ble_eq_true rfl, Nat.le_of_ble_eq_true rfl⟩ (fun rr u H locs hw hP hD hS => ?_)
  have hP : va_P (dC, dI) vwCl [(h1, .inr (1, [.ref h2, .ref b1])), (h0, .inr (2, [.ref h2, .ref h1, .ref b0])), (h2, .inr (7, [.ref b2, .ref b3, .ref b4, .int 0, .int 0, .int 10, .int 150, .int 2, .int 0, .int 0]))] H := hP
  have hD : va_D A [(h1, .inr (1, [.ref h2, .ref b1])), (h0, .inr (2, [.ref h2, .ref h1, .ref b0])), (h2, .inr (7, [.ref b2, .ref b3, .ref b4, .int 0, .int 0, .int 10, .int 150, .int 2, .int 0, .int 0]))] := hD
  refine tI (y := 0) hw ?_
  refine lv_imul hx hb dX2_difference_17 ?_
  refine tI (y := 0) (by decide) ?_
  refine lv_isub hx hb dX2_difference_18 ?_
  refine tI (y := 0) (by decide) ?_
  refine va_mabs hx hb (by rw [hml]; exact hl.1.symm) hown (hts _ k_1091) (hts _ k_1018) (hts _ k_119) (hts _ k_1019) (Nat.le_of_ble_eq_true rfl) (Nat.le_of_ble_eq_true rfl) (Nat.le_of_ble_eq_true rfl) (Nat.le_of_ble_eq_true rfl) dX2_difference_19 ?_
  refine tI (y := 0) (by decide) ?_
  exact ret 0 () _ _ _ _ _ _ rfl rfl (hP.sub [1, 0, 2] rfl) (hD.sub [1, 0, 2] (by decide) rfl) hS dX2_difference_22 (Nat.le_of_ble_eq_true rfl) (Nat.le_of_ble_eq_true rfl)
set_option maxHeartbeats 4000000 in
set_option maxRecDepth 100000 in
theorem cnX2_isEvener_1 (l : Launch) (dC : Nat → ClassId) (dI : Nat → Nat → Nat) (cy : Nat → ClassId) (h0 : Nat) (h1 : Nat) (h2 : Nat) (b0 : Nat) (b1 : Nat) (b2 : Nat) (b3 : Nat) (b4 : Nat) : ctI l (dC, dI) cy yX2_isEvener cX2_isEvener 4 .boolean 3 104 0 0 Unit [.ref h0, .int 0, .int 0] [(h0, .inr (2, [.ref h2, .ref h1, .ref b0])), (h1, .inr (1, [.ref h2, .ref b1])), (h2, .inr (7, [.ref b2, .ref b3, .ref b4, .int 0, .int 0, .int 10, .int 150, .int 2, .int 0, .int 0]))] (fun r _ => r = 0) (fun u => [(h0, .inr (2, [.ref h2, .ref h1, .ref b0])), (h1, .inr (1, [.ref h2, .ref b1])), (h2, .inr (7, [.ref b2, .ref b3, .ref b4, .int 0, .int 0, .int 10, .int 150, .int 2, .int 0, .int 0]))]) := by
  refine ctI_of (by decide) (Nat.le_of_ble_eq_true rfl) (fun p e s m below meth c A ls Q hx hb hml hts hown hE hP hD hA hl ret => ?_)
  have hown : s.vm.findClass RX2 = some m.cls := hown
  have hS : va_S A s.heap s.heap [] := va_S.rf
  have hl : lv_has ls 4 [(0, .ref h0), (1, .int 0), (2, .int 0)] := hl
  refine lv_aload_n hx hb dX2_isEvener_0 rfl (lv_at hl 0 rfl) ?_
  refine lv_iload_n hx hb dX2_isEvener_1 rfl (lv_at hl 1 rfl) ?_
  refine caVi (n := 1) (wr := []) (rest := []) hx hb hml hown hts hE hP hD hS hA (cnX2_difference_1 l dC dI cy h0 h1 h2 b0 b1 b2 b3 b4) k_1087 k_1088 k_1089 k_110 k_1090 (by decide +kernel) ⟨Nat.le_of_ble_eq_true rfl, Nat.le_of_ble_eq_true rfl⟩ [0, 1, 2] [] rfl rfl rfl (by decide) (by decide) (by decide) 0 2 rfl rfl rfl hl.1 rfl (Nat.le_of_ble_eq_true rfl) dX2_isEvener_2 ⟨Nat.le_of_ble_eq_true rfl, Nat.le_of_ble_eq_true rfl⟩ (fun rr u H locs hw hP hD hS => ?_)
  have hP : va_P (dC, dI) vwCl [(h0, .inr (2, [.ref h2, .ref h1, .ref b0])), (h1, .inr (1, [.ref h2, .ref b1])), (h2, .inr (7, [.ref b2, .ref b3, .ref b4, .int 0, .int 0, .int 10, .int 150, .int 2, .int 0, .int 0]))] H := hP
  have hD : va_D A [(h0, .inr (2, [.ref h2, .ref h1, .ref b0])), (h1, .inr (1, [.ref h2, .ref b1])), (h2, .inr (7, [.ref b2, .ref b3, .ref b4, .int 0, .int 0, .int 10, .int 150, .int 2, .int 0, .int 0]))] := hD
  refine tI (y := 0) hw ?_
  refine lv_aload_n hx hb dX2_isEvener_5 rfl (lv_at hl 0 rfl) ?_
  refine lv_iload_n hx hb dX2_isEvener_6 rfl (lv_at hl 2 rfl) ?_
  refine caVi (n := 1) (wr := []) (rest := [.int 0]) hx hb hml hown hts hE hP hD hS hA (cnX2_difference_1 l dC dI cy h0 h1 h2 b0 b1 b2 b3 b4) k_1087 k_1088 k_1089 k_110 k_1090 (by decide +kernel) ⟨Nat.le_of_ble_eq_true rfl, Nat.le_of_ble_eq_true rfl⟩ [0, 1, 2] [] rfl rfl rfl (by decide) (by decide) (by decide) 0 2 rfl rfl rfl hl.1 rfl (Nat.le_of_ble_eq_true rfl) dX2_isEvener_7 ⟨Nat.le_of_ble_eq_true rfl, Nat.le_of_ble_eq_true rfl⟩ (fun rr u H locs hw hP hD hS => ?_)
  have hP : va_P (dC, dI) vwCl [(h0, .inr (2, [.ref h2, .ref h1, .ref b0])), (h1, .inr (1, [.ref h2, .ref b1])), (h2, .inr (7, [.ref b2, .ref b3, .ref b4, .int 0, .int 0, .int 10, .int 150, .int 2, .int 0, .int 0]))] H := hP
  have hD : va_D A [(h0, .inr (2, [.ref h2, .ref h1, .ref b0])), (h1, .inr (1, [.ref h2, .ref b1])), (h2, .inr (7, [.ref b2, .ref b3, .ref b4, .int 0, .int 0, .int 10, .int 150, .int 2, .int 0, .int 0]))] := hD
  refine tI (y := 0) hw ?_
  refine lv_isub hx hb dX2_isEvener_10 ?_
  refine tI (y := 0) (by decide) ?_
  refine lv_istore_n (lv' := [(3, .int 0), (0, .ref h0), (1, .int 0), (2, .int 0)]) hx hb dX2_isEvener_11 rfl hl (by decide) rfl (fun ls hl => ?_)
  refine lv_iload_n hx hb dX2_isEvener_12 rfl (lv_at hl 0 rfl) ?_
  refine lv_if_lt (tgt := 25) hx hb dX2_isEvener_13 (by decide) (fun c0 => absurd c0 (by decide)) (fun _ => ?_)
  refine lv_iload_n hx hb dX2_isEvener_16 rfl (lv_at hl 0 rfl) ?_
  refine lv_if_ne (tgt := 29) hx hb dX2_isEvener_17 (by decide) (fun c0 => absurd (by decide) c0) (fun _ => ?_)
  refine lv_iload_n hx hb dX2_isEvener_20 rfl (lv_at hl 2 rfl) ?_
  refine lv_iload_n hx hb dX2_isEvener_21 rfl (lv_at hl 3 rfl) ?_
  refine lv_icmp_ge (tgt := 29) hx hb dX2_isEvener_22 (by decide) (fun _ => ?_) (fun c0 => absurd (by decide) c0)
  refine lv_iconst (v := 0) hx hb dX2_isEvener_29 (by decide) ?_
  exact ret 0 () _ _ _ _ _ _ rfl rfl (hP.sub [0, 1, 2] rfl) (hD.sub [0, 1, 2] (by decide) rfl) hS dX2_isEvener_30 (Nat.le_of_ble_eq_true rfl) (Nat.le_of_ble_eq_true rfl)
theorem po_X2_leftWing_373 (i1 : Nat) (gi1 : 1 ≤ i1) (hi1 : i1 ≤ 64) (c2 : 64 ≤ (nI (i1))) : i1 = 64 := by have ti_0 : (nI (i1)).toInt = (((i1 : Nat)) : Int) := nI_toInt (by omega); simp only [fa_lt, fa_le, fa_eq, tl_64, ti_0] at *; omega
theorem po_X2_leftWing_374 (i1 : Nat) (gi1 : 1 ≤ i1) (hi1 : i1 ≤ 64) (c2 : ¬ 64 ≤ (nI (i1))) : i1 < 64 := by have ti_0 : (nI (i1)).toInt = (((i1 : Nat)) : Int) := nI_toInt (by omega); simp only [fa_lt, fa_le, fa_eq, tl_64, ti_0] at *; omega
theorem po_X2_leftWing_375 (i1 : Nat) (gi1 : 1 ≤ i1) (hi1 : i1 ≤ 64) (c2 : ¬ 64 ≤ (nI (i1))) : ¬ (nI (i1)) = 0 := by have ti_0 : (nI (i1)).toInt = (((i1 : Nat)) : Int) := nI_toInt (by omega); simp only [fa_lt, fa_le, fa_eq, tl_0, tl_64, ti_0] at *; omega
set_option maxHeartbeats 4000000 in
set_option maxRecDepth 100000 in
theorem cnX2_leftWing_1 (l : Launch) (dC : Nat → ClassId) (dI : Nat → Nat → Nat) (cy : Nat → ClassId) (h0 : Nat) (h1 : Nat) (h2 : Nat) (b0 : Nat) (b1 : Nat) (b2 : Nat) (b3 : Nat) (b4 : Nat) : ctI l (dC, dI) cy yX2_leftWing cX2_leftWing 6 .int 4 127 0 0 Unit [.ref h0] [(h0, .inr (2, [.ref h2, .ref h1, .ref b0])), (h1, .inr (1, [.ref h2, .ref b1])), (h2, .inr (7, [.ref b2, .ref b3, .ref b4, .int 0, .int 0, .int 10, .int 150, .int 2, .int 0, .int 0]))] (fun r _ => r = 0) (fun u => [(h0, .inr (2, [.ref h2, .ref h1, .ref b0])), (h1, .inr (1, [.ref h2, .ref b1])), (h2, .inr (7, [.ref b2, .ref b3, .ref b4, .int 0, .int 0, .int 10, .int 150, .int 2, .int 0, .int 0]))]) := by
  refine ctI_of (by decide) (Nat.le_of_ble_eq_true rfl) (fun p e s m below meth c A ls Q hx hb hml hts hown hE hP hD hA hl ret => ?_)
  have hown : s.vm.findClass RX2 = some m.cls := hown
  have hS : va_S A s.heap s.heap [] := va_S.rf
  have hl : lv_has ls 6 [(0, .ref h0)] := hl
  refine lv_aload_n hx hb dX2_leftWing_0 rfl (lv_at hl 0 rfl) ?_
  refine va_get (D := (dC, dI)) (ci := 2) (v := .ref h1) (C := RX2) (T := TX2) (N := 3) hx hb hts inB_2 hown hE.1 hP 0 rfl rfl 1 (by decide) (hts _ k_415) (fun _ h9 => h9) rfl dX2_leftWing_1 ?_
  refine caVi (n := 0) (wr := [(h0, .inr (2, [.ref h2, .ref h1, .ref b0]))]) (rest := []) hx hb hml hown hts hE hP hD hS hA (cnX1_wearers_1 l dC dI cy h1 h2 b1 b2 b3 b4) k_1060 k_1061 k_1062 k_106 k_1063 (by decide +kernel) ⟨Nat.le_of_ble_eq_true rfl, Nat.le_of_ble_eq_true rfl⟩ [1, 2] [0] rfl rfl rfl (by decide) (by decide) (by decide) 0 1 rfl rfl rfl hl.1 rfl (Nat.le_of_ble_eq_true rfl) dX2_leftWing_4 ⟨Nat.le_of_ble_eq_true rfl, Nat.le_of_ble_eq_true rfl⟩ (fun rr u H locs hw hP hD hS => ?_)
  have hP : va_P (dC, dI) vwCl [(h0, .inr (2, [.ref h2, .ref h1, .ref b0])), (h1, .inr (1, [.ref h2, .ref b1])), (h2, .inr (7, [.ref b2, .ref b3, .ref b4, .int 0, .int 0, .int 10, .int 150, .int 2, .int 0, .int 0]))] H := hP
  have hD : va_D A [(h0, .inr (2, [.ref h2, .ref h1, .ref b0])), (h1, .inr (1, [.ref h2, .ref b1])), (h2, .inr (7, [.ref b2, .ref b3, .ref b4, .int 0, .int 0, .int 10, .int 150, .int 2, .int 0, .int 0]))] := hD
  refine tI (y := 0) hw ?_
  refine lv_istore_n (lv' := [(1, .int 0), (0, .ref h0)]) hx hb dX2_leftWing_7 rfl hl (by decide) rfl (fun ls hl => ?_)
  refine lv_iload_n hx hb dX2_leftWing_8 rfl (lv_at hl 0 rfl) ?_
  refine caSi (n := 1) (wr := [(h0, .inr (2, [.ref h2, .ref h1, .ref b0])), (h1, .inr (1, [.ref h2, .ref b1])), (h2, .inr (7, [.ref b2, .ref b3, .ref b4, .int 0, .int 0, .int 10, .int 150, .int 2, .int 0, .int 0]))]) (rest := []) hx hb hml hown hts hE hP hD hS hA (cnJ6_lowestOneBit_0f7a4_1 l dC dI cy ) k_1080 k_1081 k_121 k_1082 (by decide +kernel) ⟨Nat.le_of_ble_eq_true rfl, Nat.le_of_ble_eq_true rfl⟩ [] [0, 1, 2] rfl rfl rfl (by decide) (by decide) (by decide) rfl hl.1 rfl (Nat.le_of_ble_eq_true rfl) dX2_leftWing_9 ⟨Nat.le_of_ble_eq_true rfl, Nat.le_of_ble_eq_true rfl⟩ (fun rr u H locs hw hP hD hS => ?_)
  have hP : va_P (dC, dI) vwCl [(h0, .inr (2, [.ref h2, .ref h1, .ref b0])), (h1, .inr (1, [.ref h2, .ref b1])), (h2, .inr (7, [.ref b2, .ref b3, .ref b4, .int 0, .int 0, .int 10, .int 150, .int 2, .int 0, .int 0]))] H := hP
  have hD : va_D A [(h0, .inr (2, [.ref h2, .ref h1, .ref b0])), (h1, .inr (1, [.ref h2, .ref b1])), (h2, .inr (7, [.ref b2, .ref b3, .ref b4, .int 0, .int 0, .int 10, .int 150, .int 2, .int 0, .int 0]))] := hD
  refine tI (y := 0) hw ?_
  refine lv_istore_n (lv' := [(2, .int 0), (1, .int 0), (0, .ref h0)]) hx hb dX2_leftWing_12 rfl hl (by decide) rfl (fun ls hl => ?_)
  refine lv_iload_n hx hb dX2_leftWing_13 rfl (lv_at hl 1 rfl) ?_
  refine lv_istore_n (lv' := [(3, .int 0), (2, .int 0), (1, .int 0), (0, .ref h0)]) hx hb dX2_leftWing_14 rfl hl (by decide) rfl (fun ls hl => ?_)
  refine lv_iconst (v := 0) hx hb dX2_leftWing_15 (by decide) ?_
  refine lv_istore (lv' := [(4, .int 0), (3, .int 0), (2, .int 0), (1, .int 0), (0, .ref h0)]) hx hb dX2_leftWing_16 hl (by decide) rfl (fun ls hl => ?_)
  refine lv_iload hx hb dX2_leftWing_18 (lv_at hl 0 rfl) ?_
  refine lv_bipush (v := 64) hx hb dX2_leftWing_20 (by decide) ?_
  refine lv_icmp_ge (tgt := 73) hx hb dX2_leftWing_22 (by decide) (fun c0 => absurd c0 (by decide)) (fun _ => ?_)
  refine lv_iload hx hb dX2_leftWing_25 (lv_at hl 0 rfl) ?_
  refine lv_iload_n hx hb dX2_leftWing_27 rfl (lv_at hl 3 rfl) ?_
  refine lv_iconst (v := (-1)) hx hb dX2_leftWing_28 (by decide) ?_
  refine lv_ixor hx hb dX2_leftWing_29 ?_
  refine tI (y := (-1)) (by decide) ?_
  refine lv_iand hx hb dX2_leftWing_30 ?_
  refine tI (y := 0) (by decide) ?_
  refine lv_if_ne (tgt := 46) hx hb dX2_leftWing_31 (by decide) (fun c0 => absurd (by decide) c0) (fun _ => ?_)
  refine lv_iload hx hb dX2_leftWing_34 (lv_at hl 0 rfl) ?_
  refine lv_iload_n hx hb dX2_leftWing_36 rfl (lv_at hl 2 rfl) ?_
  refine lv_iand hx hb dX2_leftWing_37 ?_
  refine tI (y := 0) (by decide) ?_
  refine lv_iload_n hx hb dX2_leftWing_38 rfl (lv_at hl 2 rfl) ?_
  refine lv_icmp_ne (tgt := 46) hx hb dX2_leftWing_39 (by decide) (fun c0 => absurd (by decide) c0) (fun _ => ?_)
  refine lv_iconst (v := 1) hx hb dX2_leftWing_42 (by decide) ?_
  refine lv_goto (tgt := 47) hx hb dX2_leftWing_43 (by decide) ?_
  refine lv_istore (lv' := [(5, .int 1), (4, .int 0), (3, .int 0), (2, .int 0), (1, .int 0), (0, .ref h0)]) hx hb dX2_leftWing_47 hl (by decide) rfl (fun ls hl => ?_)
  refine lv_iload hx hb dX2_leftWing_49 (lv_at hl 0 rfl) ?_
  refine lv_if_eq (tgt := 67) hx hb dX2_leftWing_51 (by decide) (fun c0 => absurd c0 (by decide)) (fun _ => ?_)
  refine lv_aload_n hx hb dX2_leftWing_54 rfl (lv_at hl 5 rfl) ?_
  refine lv_iload hx hb dX2_leftWing_55 (lv_at hl 1 rfl) ?_
  refine lv_iload_n hx hb dX2_leftWing_57 rfl (lv_at hl 2 rfl) ?_
  refine caVi (n := 2) (wr := []) (rest := []) hx hb hml hown hts hE hP hD hS hA (cnX2_isEvener_1 l dC dI cy h0 h1 h2 b0 b1 b2 b3 b4) k_1083 k_1085 k_30 k_110 k_1086 (by decide +kernel) ⟨Nat.le_of_ble_eq_true rfl, Nat.le_of_ble_eq_true rfl⟩ [0, 1, 2] [] rfl rfl rfl (by decide) (by decide) (by decide) 0 2 rfl rfl rfl hl.1 rfl (Nat.le_of_ble_eq_true rfl) dX2_leftWing_58 ⟨Nat.le_of_ble_eq_true rfl, Nat.le_of_ble_eq_true rfl⟩ (fun rr u H locs hw hP hD hS => ?_)
  have hP : va_P (dC, dI) vwCl [(h0, .inr (2, [.ref h2, .ref h1, .ref b0])), (h1, .inr (1, [.ref h2, .ref b1])), (h2, .inr (7, [.ref b2, .ref b3, .ref b4, .int 0, .int 0, .int 10, .int 150, .int 2, .int 0, .int 0]))] H := hP
  have hD : va_D A [(h0, .inr (2, [.ref h2, .ref h1, .ref b0])), (h1, .inr (1, [.ref h2, .ref b1])), (h2, .inr (7, [.ref b2, .ref b3, .ref b4, .int 0, .int 0, .int 10, .int 150, .int 2, .int 0, .int 0]))] := hD
  refine tI (y := 0) hw ?_
  refine lv_if_eq (tgt := 67) hx hb dX2_leftWing_61 (by decide) (fun _ => ?_) (fun c0 => absurd (by decide) c0)
  refine lv_iinc (v := 1) (lv' := [(4, .int 1), (5, .int 1), (3, .int 0), (2, .int 0), (1, .int 0), (0, .ref h0)]) hx hb dX2_leftWing_67 hl (k := 1) rfl (by decide) (by decide) rfl (fun ls hl => ?_)
  refine lv_goto (tgt := 18) hx hb dX2_leftWing_70 (by decide) ?_
  have lp1 : ∀ (n i1 : Nat), 1 ≤ i1 → i1 ≤ 64 → 64 < i1 + n → ∀ (H : Heap) (locs : List Loc) (ls : Array Slot), va_P (dC, dI) vwCl [(h0, .inr (2, [.ref h2, .ref h1, .ref b0])), (h1, .inr (1, [.ref h2, .ref b1])), (h2, .inr (7, [.ref b2, .ref b3, .ref b4, .int 0, .int 0, .int 10, .int 150, .int 2, .int 0, .int 0]))] H → va_D A [(h0, .inr (2, [.ref h2, .ref h1, .ref b0])), (h1, .inr (1, [.ref h2, .ref b1])), (h2, .inr (7, [.ref b2, .ref b3, .ref b4, .int 0, .int 0, .int 10, .int 150, .int 2, .int 0, .int 0]))] → va_S A s.heap H locs → lv_has ls 6 [(4, .int (nI (i1))), (3, .int 0), (2, .int 0), (1, .int 0), (0, .ref h0)] → W p l e { frames := 4, cells := 0, slots := 0, locals := 127 } s m ([.ref h0] : List Value).toArray below meth c H locs 0 0 Q (F0 m 18 ls []) := by
    intro n
    induction n with
    | zero => intro i1 h0 h1 h2; exact absurd h2 (by omega)
    | succ n ih1 =>
      intro i1 hloi1 hi1 hin H locs ls hP hD hS hl
      refine lv_iload hx hb dX2_leftWing_18 (lv_at hl 0 rfl) ?_
      refine lv_bipush (v := 64) hx hb dX2_leftWing_20 (by decide) ?_
      refine lv_icmp_ge (tgt := 73) hx hb dX2_leftWing_22 (by decide) (fun c2 => ?_) (fun c2 => ?_)
      · skip
        have hsi1 : i1 = 64 := (po_X2_leftWing_373 i1 hloi1 hi1 c2)
        subst hsi1
        refine lv_iload_n hx hb dX2_leftWing_73 rfl (lv_at hl 1 rfl) ?_
        exact ret 0 () _ _ _ _ _ _ rfl rfl (hP.sub [0, 1, 2] rfl) (hD.sub [0, 1, 2] (by decide) rfl) hS dX2_leftWing_74 (Nat.le_of_ble_eq_true rfl) (Nat.le_of_ble_eq_true rfl)
      · skip
        have hsi1 : i1 < 64 := (po_X2_leftWing_374 i1 hloi1 hi1 c2)
        refine lv_iload hx hb dX2_leftWing_25 (lv_at hl 0 rfl) ?_
        refine lv_iload_n hx hb dX2_leftWing_27 rfl (lv_at hl 3 rfl) ?_
        refine lv_iconst (v := (-1)) hx hb dX2_leftWing_28 (by decide) ?_
        refine lv_ixor hx hb dX2_leftWing_29 ?_
        refine tI (y := (-1)) (by decide) ?_
        refine lv_iand hx hb dX2_leftWing_30 ?_
        refine tI (y := (nI (i1))) (and_m1 _) ?_
        refine lv_if_ne (tgt := 46) hx hb dX2_leftWing_31 (by decide) (fun _ => ?_) (fun c0 => absurd c0 (po_X2_leftWing_375 i1 hloi1 hi1 c2))
        refine lv_iconst (v := 0) hx hb dX2_leftWing_46 (by decide) ?_
        refine lv_istore (lv' := [(5, .int 0), (4, .int (nI (i1))), (3, .int 0), (2, .int 0), (1, .int 0), (0, .ref h0)]) hx hb dX2_leftWing_47 hl (by decide) rfl (fun ls hl => ?_)
        refine lv_iload hx hb dX2_leftWing_49 (lv_at hl 0 rfl) ?_
        refine lv_if_eq (tgt := 67) hx hb dX2_leftWing_51 (by decide) (fun _ => ?_) (fun c0 => absurd (by decide) c0)
        refine lv_iinc (v := (nI (i1 + 1))) (lv' := [(4, .int (nI (i1 + 1))), (5, .int 0), (3, .int 0), (2, .int 0), (1, .int 0), (0, .ref h0)]) hx hb dX2_leftWing_67 hl (k := 1) rfl (nI_1 (i1)) (by decide) rfl (fun ls hl => ?_)
        refine lv_goto (tgt := 18) hx hb dX2_leftWing_70 (by decide) ?_
        exact ih1 (i1 + 1) (by omega) (by omega) (by omega) _ _ _ (hP.sub [0, 1, 2] rfl) (hD.sub [0, 1, 2] (by decide) rfl) hS (lv_sub hl [0, 2, 3, 4, 5] rfl)
  exact lp1 65 1 (by decide) (by decide) (by decide) _ _ _ (hP.sub [0, 1, 2] rfl) (hD.sub [0, 1, 2] (by decide) rfl) hS (lv_sub hl [0, 2, 3, 4, 5] rfl)
theorem pt_X10_wings_378 (p1 : Int32) (c1 : p1 < 0) : ((-1) : Int32) = F_wings p1 := by
  unfold F_wings
  (repeat' split)
  all_goals first | rfl | assumption | (exfalso; simp only [fa_lt, fa_le, fa_eq, tl_m1, tl_0, tl_1] at *; omega) | (simp only [fa_lt, fa_le, fa_eq, tl_m1, tl_0, tl_1] at *; omega)
theorem pt_X10_wings_381 (p1 : Int32) (c1 : ¬ p1 < 0) (c2 : p1 ≤ 1) (c3 : ¬ p1 = 1) : (0 : Int32) = F_wings p1 := by
  unfold F_wings
  (repeat' split)
  all_goals first | rfl | assumption | (exfalso; simp only [fa_lt, fa_le, fa_eq, tl_m1, tl_0, tl_1] at *; omega) | (simp only [fa_lt, fa_le, fa_eq, tl_m1, tl_0, tl_1] at *; omega)
theorem pt_X10_wings_382 (p1 : Int32) (c1 : ¬ p1 < 0) (c2 : p1 ≤ 1) (c3 : p1 = 1) : (0 : Int32) = F_wings p1 := by
  unfold F_wings
  (repeat' split)
  all_goals first | rfl | assumption | (exfalso; simp only [fa_lt, fa_le, fa_eq, tl_m1, tl_0, tl_1] at *; omega) | (simp only [fa_lt, fa_le, fa_eq, tl_m1, tl_0, tl_1] at *; omega)
theorem pt_X10_wings_383 (p1 : Int32) (c1 : ¬ p1 < 0) (c2 : ¬ p1 ≤ 1) : ((-1) : Int32) = F_wings p1 := by
  unfold F_wings
  (repeat' split)
  all_goals first | rfl | assumption | (exfalso; simp only [fa_lt, fa_le, fa_eq, tl_m1, tl_0, tl_1] at *; omega) | (simp only [fa_lt, fa_le, fa_eq, tl_m1, tl_0, tl_1] at *; omega)
set_option maxHeartbeats 4000000 in
set_option maxRecDepth 100000 in
theorem cnX10_wings_1 (l : Launch) (dC : Nat → ClassId) (dI : Nat → Nat → Nat) (cy : Nat → ClassId) (h0 : Nat) (h1 : Nat) (h2 : Nat) (h3 : Nat) (b0 : Nat) (b1 : Nat) (b2 : Nat) (b3 : Nat) (b4 : Nat) (b5 : Nat) (b6 : Nat) (b7 : Nat) (b8 : Nat) (b9 : Nat) (b10 : Nat) (p1 : Int32) : ctI l (dC, dI) cy yX10_wings cX10_wings 3 .int 5 152 0 0 Unit [.ref h0, .int p1] [(h0, .inr (10, [.ref b0, .ref b1, .ref h3, .ref h2, .ref b2, .ref b3, .ref h1, .ref b4, .ref b5, .int 0])), (h1, .inr (2, [.ref h3, .ref h2, .ref b6])), (h2, .inr (1, [.ref h3, .ref b7])), (h3, .inr (7, [.ref b8, .ref b9, .ref b10, .int 0, .int 0, .int 10, .int 150, .int 2, .int 0, .int 0]))] (fun r _ => r = F_wings p1) (fun u => []) := by
  refine ctI_of (by decide) (Nat.le_of_ble_eq_true rfl) (fun p e s m below meth c A ls Q hx hb hml hts hown hE hP hD hA hl ret => ?_)
  have hown : s.vm.findClass RX10 = some m.cls := hown
  have hS : va_S A s.heap s.heap [] := va_S.rf
  have hl : lv_has ls 3 [(0, .ref h0), (1, .int p1)] := hl
  refine lv_iload_n hx hb dX10_wings_0 rfl (lv_at hl 1 rfl) ?_
  refine lv_if_lt (tgt := 9) hx hb dX10_wings_1 (by decide) (fun c1 => ?_) (fun c1 => ?_)
  · skip
    refine lv_iconst (v := (-1)) hx hb dX10_wings_9 (by decide) ?_
    exact ret (-1) () _ _ _ _ _ _ rfl (pt_X10_wings_378 p1 c1) (hP.sub [] rfl) (hD.sub [] (by decide) rfl) hS dX10_wings_10 (Nat.le_of_ble_eq_true rfl) (Nat.le_of_ble_eq_true rfl)
  · skip
    refine lv_iload_n hx hb dX10_wings_4 rfl (lv_at hl 1 rfl) ?_
    refine lv_iconst (v := 1) hx hb dX10_wings_5 (by decide) ?_
    refine lv_icmp_le (tgt := 11) hx hb dX10_wings_6 (by decide) (fun c2 => ?_) (fun c2 => ?_)
    · skip
      refine lv_aload_n hx hb dX10_wings_11 rfl (lv_at hl 0 rfl) ?_
      refine va_get (D := (dC, dI)) (ci := 10) (v := .ref h1) (C := RX10) (T := TX10) (N := 10) hx hb hts inB_10 hown hE.1 hP 0 rfl rfl 6 (by decide) (hts _ k_497) (fun _ h9 => h9) rfl dX10_wings_12 ?_
      refine caVi (n := 0) (wr := [(h0, .inr (10, [.ref b0, .ref b1, .ref h3, .ref h2, .ref b2, .ref b3, .ref h1, .ref b4, .ref b5, .int 0]))]) (rest := []) hx hb hml hown hts hE hP hD hS hA (cnX2_leftWing_1 l dC dI cy h1 h2 h3 b6 b7 b8 b9 b10) k_1076 k_1077 k_1078 k_110 k_1079 (by decide +kernel) ⟨Nat.le_of_ble_eq_true rfl, Nat.le_of_ble_eq_true rfl⟩ [1, 2, 3] [0] rfl rfl rfl (by decide) (by decide) (by decide) 0 2 rfl rfl rfl hl.1 rfl (Nat.le_of_ble_eq_true rfl) dX10_wings_15 ⟨Nat.le_of_ble_eq_true rfl, Nat.le_of_ble_eq_true rfl⟩ (fun rr u H locs hw hP hD hS => ?_)
      have hP : va_P (dC, dI) vwCl [(h0, .inr (10, [.ref b0, .ref b1, .ref h3, .ref h2, .ref b2, .ref b3, .ref h1, .ref b4, .ref b5, .int 0])), (h1, .inr (2, [.ref h3, .ref h2, .ref b6])), (h2, .inr (1, [.ref h3, .ref b7])), (h3, .inr (7, [.ref b8, .ref b9, .ref b10, .int 0, .int 0, .int 10, .int 150, .int 2, .int 0, .int 0]))] H := hP
      have hD : va_D A [(h0, .inr (10, [.ref b0, .ref b1, .ref h3, .ref h2, .ref b2, .ref b3, .ref h1, .ref b4, .ref b5, .int 0])), (h1, .inr (2, [.ref h3, .ref h2, .ref b6])), (h2, .inr (1, [.ref h3, .ref b7])), (h3, .inr (7, [.ref b8, .ref b9, .ref b10, .int 0, .int 0, .int 10, .int 150, .int 2, .int 0, .int 0]))] := hD
      refine tI (y := 0) hw ?_
      refine lv_istore_n (lv' := [(2, .int 0), (0, .ref h0), (1, .int p1)]) hx hb dX10_wings_18 rfl hl (by decide) rfl (fun ls hl => ?_)
      refine lv_iload_n hx hb dX10_wings_19 rfl (lv_at hl 2 rfl) ?_
      refine lv_iconst (v := 1) hx hb dX10_wings_20 (by decide) ?_
      refine lv_icmp_ne (tgt := 28) hx hb dX10_wings_21 (by decide) (fun c3 => ?_) (fun c3 => ?_)
      · skip
        refine lv_aload_n hx hb dX10_wings_28 rfl (lv_at hl 1 rfl) ?_
        refine va_get (D := (dC, dI)) (ci := 10) (v := .ref h1) (C := RX10) (T := TX10) (N := 10) hx hb hts inB_10 hown hE.1 hP 0 rfl rfl 6 (by decide) (hts _ k_497) (fun _ h9 => h9) rfl dX10_wings_29 ?_
        refine lv_iload_n hx hb dX10_wings_32 rfl (lv_at hl 0 rfl) ?_
        refine caVi (n := 1) (wr := [(h0, .inr (10, [.ref b0, .ref b1, .ref h3, .ref h2, .ref b2, .ref b3, .ref h1, .ref b4, .ref b5, .int 0]))]) (rest := []) hx hb hml hown hts hE hP hD hS hA (cnX2_difference_1 l dC dI cy h1 h2 h3 b6 b7 b8 b9 b10) k_1092 k_1088 k_1089 k_110 k_1090 (by decide +kernel) ⟨Nat.le_of_ble_eq_true rfl, Nat.le_of_ble_eq_true rfl⟩ [1, 2, 3] [0] rfl rfl rfl (by decide) (by decide) (by decide) 0 2 rfl rfl rfl hl.1 rfl (Nat.le_of_ble_eq_true rfl) dX10_wings_33 ⟨Nat.le_of_ble_eq_true rfl, Nat.le_of_ble_eq_true rfl⟩ (fun rr u H locs hw hP hD hS => ?_)
        have hP : va_P (dC, dI) vwCl [(h0, .inr (10, [.ref b0, .ref b1, .ref h3, .ref h2, .ref b2, .ref b3, .ref h1, .ref b4, .ref b5, .int 0])), (h1, .inr (2, [.ref h3, .ref h2, .ref b6])), (h2, .inr (1, [.ref h3, .ref b7])), (h3, .inr (7, [.ref b8, .ref b9, .ref b10, .int 0, .int 0, .int 10, .int 150, .int 2, .int 0, .int 0]))] H := hP
        have hD : va_D A [(h0, .inr (10, [.ref b0, .ref b1, .ref h3, .ref h2, .ref b2, .ref b3, .ref h1, .ref b4, .ref b5, .int 0])), (h1, .inr (2, [.ref h3, .ref h2, .ref b6])), (h2, .inr (1, [.ref h3, .ref b7])), (h3, .inr (7, [.ref b8, .ref b9, .ref b10, .int 0, .int 0, .int 10, .int 150, .int 2, .int 0, .int 0]))] := hD
        refine tI (y := 0) hw ?_
        exact ret 0 () _ _ _ _ _ _ rfl (pt_X10_wings_381 p1 c1 c2 c3) (hP.sub [] rfl) (hD.sub [] (by decide) rfl) hS dX10_wings_36 (Nat.le_of_ble_eq_true rfl) (Nat.le_of_ble_eq_true rfl)
      · skip
        refine lv_iload_n hx hb dX10_wings_24 rfl (lv_at hl 0 rfl) ?_
        refine lv_goto (tgt := 36) hx hb dX10_wings_25 (by decide) ?_
        exact ret 0 () _ _ _ _ _ _ rfl (pt_X10_wings_382 p1 c1 c2 c3) (hP.sub [] rfl) (hD.sub [] (by decide) rfl) hS dX10_wings_36 (Nat.le_of_ble_eq_true rfl) (Nat.le_of_ble_eq_true rfl)
    · skip
      refine lv_iconst (v := (-1)) hx hb dX10_wings_9 (by decide) ?_
      exact ret (-1) () _ _ _ _ _ _ rfl (pt_X10_wings_383 p1 c1 c2) (hP.sub [] rfl) (hD.sub [] (by decide) rfl) hS dX10_wings_10 (Nat.le_of_ble_eq_true rfl) (Nat.le_of_ble_eq_true rfl)
set_option maxHeartbeats 4000000 in
set_option maxRecDepth 100000 in
theorem cnX11_plain_1 (l : Launch) (dC : Nat → ClassId) (dI : Nat → Nat → Nat) (cy : Nat → ClassId)  : ctI l (dC, dI) cy yX11_plain cX11_plain 1 .int 1 60 0 0 Unit [.int 0] [] (fun r _ => r = 0) (fun u => []) := by
  refine ctI_of (by decide) (Nat.le_of_ble_eq_true rfl) (fun p e s m below meth c A ls Q hx hb hml hts hown hE hP hD hA hl ret => ?_)
  have hown : s.vm.findClass RX11 = some m.cls := hown
  have hS : va_S A s.heap s.heap [] := va_S.rf
  have hl : lv_has ls 1 [(0, .int 0)] := hl
  refine lv_iload_n hx hb dX11_plain_0 rfl (lv_at hl 0 rfl) ?_
  refine lv_if_ge (tgt := 9) hx hb dX11_plain_1 (by decide) (fun _ => ?_) (fun c0 => absurd (by decide) c0)
  refine lv_iload_n hx hb dX11_plain_9 rfl (lv_at hl 0 rfl) ?_
  exact ret 0 () _ _ _ _ _ _ rfl rfl (hP.sub [] rfl) (hD.sub [] (by decide) rfl) hS dX11_plain_10 (Nat.le_of_ble_eq_true rfl) (Nat.le_of_ble_eq_true rfl)
theorem pt_X11_wings_390 (p1 : Int32) (c1 : 0 ≤ p1 ∧ p1 ≤ 1) (c1 : 0 ≤ p1 ∧ p1 ≤ 1) (c2 : ¬ p1 = 0) : (0 : Int32) = F_wings p1 := by
  unfold F_wings
  (repeat' split)
  all_goals first | rfl | assumption | (exfalso; simp only [fa_lt, fa_le, fa_eq, tl_m1, tl_0, tl_1] at *; omega) | (simp only [fa_lt, fa_le, fa_eq, tl_m1, tl_0, tl_1] at *; omega)
theorem pt_X11_wings_391 (p1 : Int32) (c1 : 0 ≤ p1 ∧ p1 ≤ 1) (c1 : 0 ≤ p1 ∧ p1 ≤ 1) (c2 : p1 = 0) : (0 : Int32) = F_wings p1 := by
  unfold F_wings
  (repeat' split)
  all_goals first | rfl | assumption | (exfalso; simp only [fa_lt, fa_le, fa_eq, tl_m1, tl_0, tl_1] at *; omega) | (simp only [fa_lt, fa_le, fa_eq, tl_m1, tl_0, tl_1] at *; omega)
theorem pt_X11_wings_392 (p1 : Int32) (c1 : ¬ (0 ≤ p1 ∧ p1 ≤ 1)) : ((-1) : Int32) = F_wings p1 := by
  unfold F_wings
  (repeat' split)
  all_goals first | rfl | assumption | (exfalso; simp only [fa_lt, fa_le, fa_eq, tl_m1, tl_0, tl_1] at *; omega) | (simp only [fa_lt, fa_le, fa_eq, tl_m1, tl_0, tl_1] at *; omega)
set_option maxHeartbeats 4000000 in
set_option maxRecDepth 100000 in
theorem cnX11_wings_1 (l : Launch) (dC : Nat → ClassId) (dI : Nat → Nat → Nat) (cy : Nat → ClassId) (h0 : Nat) (r : Nat → Nat) (p1 : Int32) : ctI l (dC, dI) cy yX11_wings cX11_wings 8 .int 2 83 0 0 Unit [.ref h0, .int p1] [(h0, .inr (11, mFs r mv0)), ((r 59), .inl (cy 1, 39, .inl zF)), ((r 60), .inl (cy 1, 39, .inl zF))] (fun r _ => r = F_wings p1) (fun u => []) := by
  refine ctI_of (by decide) (Nat.le_of_ble_eq_true rfl) (fun p e s m below meth c A ls Q hx hb hml hts hown hE hP hD hA hl ret => ?_)
  have hown : s.vm.findClass RX11 = some m.cls := hown
  have hS : va_S A s.heap s.heap [] := va_S.rf
  have hl : lv_has ls 8 [(0, .ref h0), (1, .int p1)] := hl
  refine lv_iload_n hx hb dX11_wings_0 rfl (lv_at hl 1 rfl) ?_
  refine lv_iconst (v := 0) hx hb dX11_wings_1 (by decide) ?_
  refine lv_iconst (v := 1) hx hb dX11_wings_2 (by decide) ?_
  by_cases c1 : (0 ≤ p1 ∧ p1 ≤ 1)
  · skip
    refine caSi (n := 3) (wr := [(h0, .inr (11, mFs r mv0)), ((r 59), .inl (cy 1, 39, .inl zF)), ((r 60), .inl (cy 1, 39, .inl zF))]) (rest := []) hx hb hml hown hts hE hP hD hS hA (cnX11_isIn_2 l dC dI cy p1 c1) k_1736 k_1737 k_114 k_1738 (by decide +kernel) ⟨Nat.le_of_ble_eq_true rfl, Nat.le_of_ble_eq_true rfl⟩ [] [0, 1, 2] rfl rfl rfl (by decide) (by decide) (by decide) rfl hl.1 rfl (Nat.le_of_ble_eq_true rfl) dX11_wings_3 ⟨Nat.le_of_ble_eq_true rfl, Nat.le_of_ble_eq_true rfl⟩ (fun rr u H locs hw hP hD hS => ?_)
    have hP : va_P (dC, dI) vwCl [(h0, .inr (11, mFs r mv0)), ((r 59), .inl (cy 1, 39, .inl zF)), ((r 60), .inl (cy 1, 39, .inl zF))] H := hP
    have hD : va_D A [(h0, .inr (11, mFs r mv0)), ((r 59), .inl (cy 1, 39, .inl zF)), ((r 60), .inl (cy 1, 39, .inl zF))] := hD
    refine tI (y := 1) hw ?_
    refine lv_if_ne (tgt := 11) hx hb dX11_wings_6 (by decide) (fun _ => ?_) (fun c0 => absurd c0 (by decide))
    refine lv_aload_n hx hb dX11_wings_11 rfl (lv_at hl 0 rfl) ?_
    refine caVv (n := 0) (wr := []) (rest := []) hx hb hml hown hts hE hP hD hS hA (cnX11_fill_1 l dC dI cy h0 r) k_1739 k_1741 k_71 k_114 k_1742 (by decide +kernel) ⟨Nat.le_of_ble_eq_true rfl, Nat.le_of_ble_eq_true rfl⟩ [0, 1, 2] [] rfl rfl rfl (by decide) (by decide) (by decide) 0 11 rfl rfl rfl hl.1 rfl (Nat.le_of_ble_eq_true rfl) dX11_wings_12 ⟨Nat.le_of_ble_eq_true rfl, Nat.le_of_ble_eq_true rfl⟩ (fun u H locs hw hP hD hS => ?_)
    have hP : va_P (dC, dI) vwCl [(h0, .inr (11, mFs r mv0)), ((r 59), .inl (cy 1, 39, .inl zF)), ((r 60), .inl (cy 1, 39, .inl zF))] H := hP
    have hD : va_D A [(h0, .inr (11, mFs r mv0)), ((r 59), .inl (cy 1, 39, .inl zF)), ((r 60), .inl (cy 1, 39, .inl zF))] := hD
    refine lv_aload_n hx hb dX11_wings_15 rfl (lv_at hl 0 rfl) ?_
    refine caVi (n := 0) (wr := [((r 59), .inl (cy 1, 39, .inl zF)), ((r 60), .inl (cy 1, 39, .inl zF))]) (rest := []) hx hb hml hown hts hE hP hD hS hA (cnX11_wearers_2 l dC dI cy h0 r) k_1805 k_1807 k_80 k_114 k_1808 (by decide +kernel) ⟨Nat.le_of_ble_eq_true rfl, Nat.le_of_ble_eq_true rfl⟩ [0] [1, 2] rfl rfl rfl (by decide) (by decide) (by decide) 0 11 rfl rfl rfl hl.1 rfl (Nat.le_of_ble_eq_true rfl) dX11_wings_16 ⟨Nat.le_of_ble_eq_true rfl, Nat.le_of_ble_eq_true rfl⟩ (fun rr u H locs hw hP hD hS => ?_)
    have hP : va_P (dC, dI) vwCl [((r 59), .inl (cy 1, 39, .inl zF)), ((r 60), .inl (cy 1, 39, .inl zF)), (h0, .inr (11, mFs r mv0))] H := hP
    have hD : va_D A [((r 59), .inl (cy 1, 39, .inl zF)), ((r 60), .inl (cy 1, 39, .inl zF)), (h0, .inr (11, mFs r mv0))] := hD
    refine tI (y := 0) hw ?_
    refine lv_istore_n (lv' := [(2, .int 0), (0, .ref h0), (1, .int p1)]) hx hb dX11_wings_19 rfl hl (by decide) rfl (fun ls hl => ?_)
    refine lv_iconst (v := 0) hx hb dX11_wings_20 (by decide) ?_
    refine lv_istore_n (lv' := [(3, .int 0), (2, .int 0), (0, .ref h0), (1, .int p1)]) hx hb dX11_wings_21 rfl hl (by decide) rfl (fun ls hl => ?_)
    refine lv_iconst (v := 5) hx hb dX11_wings_22 (by decide) ?_
    refine lv_istore (lv' := [(4, .int 5), (3, .int 0), (2, .int 0), (0, .ref h0), (1, .int p1)]) hx hb dX11_wings_23 hl (by decide) rfl (fun ls hl => ?_)
    refine lv_iload hx hb dX11_wings_25 (lv_at hl 0 rfl) ?_
    refine lv_if_lt (tgt := 55) hx hb dX11_wings_27 (by decide) (fun c0 => absurd c0 (by decide)) (fun _ => ?_)
    refine lv_iload_n hx hb dX11_wings_30 rfl (lv_at hl 2 rfl) ?_
    refine lv_iload hx hb dX11_wings_31 (lv_at hl 0 rfl) ?_
    refine lv_ishr hx hb dX11_wings_33 ?_
    refine tI (y := 0) (by decide) ?_
    refine lv_iconst (v := 1) hx hb dX11_wings_34 (by decide) ?_
    refine lv_iand hx hb dX11_wings_35 ?_
    refine tI (y := 0) (by decide) ?_
    refine lv_iconst (v := 1) hx hb dX11_wings_36 (by decide) ?_
    refine lv_icmp_ne (tgt := 47) hx hb dX11_wings_37 (by decide) (fun _ => ?_) (fun c0 => absurd c0 (by decide))
    refine lv_iload_n hx hb dX11_wings_47 rfl (lv_at hl 1 rfl) ?_
    refine lv_istore_n (lv' := [(3, .int 0), (4, .int 5), (2, .int 0), (0, .ref h0), (1, .int p1)]) hx hb dX11_wings_48 rfl hl (by decide) rfl (fun ls hl => ?_)
    refine lv_iinc (v := 4) (lv' := [(4, .int 4), (3, .int 0), (2, .int 0), (0, .ref h0), (1, .int p1)]) hx hb dX11_wings_49 hl (k := 1) rfl (by decide) (by decide) rfl (fun ls hl => ?_)
    refine lv_goto (tgt := 25) hx hb dX11_wings_52 (by decide) ?_
    refine lv_iload hx hb dX11_wings_25 (lv_at hl 0 rfl) ?_
    refine lv_if_lt (tgt := 55) hx hb dX11_wings_27 (by decide) (fun c0 => absurd c0 (by decide)) (fun _ => ?_)
    refine lv_iload_n hx hb dX11_wings_30 rfl (lv_at hl 2 rfl) ?_
    refine lv_iload hx hb dX11_wings_31 (lv_at hl 0 rfl) ?_
    refine lv_ishr hx hb dX11_wings_33 ?_
    refine tI (y := 0) (by decide) ?_
    refine lv_iconst (v := 1) hx hb dX11_wings_34 (by decide) ?_
    refine lv_iand hx hb dX11_wings_35 ?_
    refine tI (y := 0) (by decide) ?_
    refine lv_iconst (v := 1) hx hb dX11_wings_36 (by decide) ?_
    refine lv_icmp_ne (tgt := 47) hx hb dX11_wings_37 (by decide) (fun _ => ?_) (fun c0 => absurd c0 (by decide))
    refine lv_iload_n hx hb dX11_wings_47 rfl (lv_at hl 1 rfl) ?_
    refine lv_istore_n (lv' := [(3, .int 0), (4, .int 4), (2, .int 0), (0, .ref h0), (1, .int p1)]) hx hb dX11_wings_48 rfl hl (by decide) rfl (fun ls hl => ?_)
    refine lv_iinc (v := 3) (lv' := [(4, .int 3), (3, .int 0), (2, .int 0), (0, .ref h0), (1, .int p1)]) hx hb dX11_wings_49 hl (k := 1) rfl (by decide) (by decide) rfl (fun ls hl => ?_)
    refine lv_goto (tgt := 25) hx hb dX11_wings_52 (by decide) ?_
    refine lv_iload hx hb dX11_wings_25 (lv_at hl 0 rfl) ?_
    refine lv_if_lt (tgt := 55) hx hb dX11_wings_27 (by decide) (fun c0 => absurd c0 (by decide)) (fun _ => ?_)
    refine lv_iload_n hx hb dX11_wings_30 rfl (lv_at hl 2 rfl) ?_
    refine lv_iload hx hb dX11_wings_31 (lv_at hl 0 rfl) ?_
    refine lv_ishr hx hb dX11_wings_33 ?_
    refine tI (y := 0) (by decide) ?_
    refine lv_iconst (v := 1) hx hb dX11_wings_34 (by decide) ?_
    refine lv_iand hx hb dX11_wings_35 ?_
    refine tI (y := 0) (by decide) ?_
    refine lv_iconst (v := 1) hx hb dX11_wings_36 (by decide) ?_
    refine lv_icmp_ne (tgt := 47) hx hb dX11_wings_37 (by decide) (fun _ => ?_) (fun c0 => absurd c0 (by decide))
    refine lv_iload_n hx hb dX11_wings_47 rfl (lv_at hl 1 rfl) ?_
    refine lv_istore_n (lv' := [(3, .int 0), (4, .int 3), (2, .int 0), (0, .ref h0), (1, .int p1)]) hx hb dX11_wings_48 rfl hl (by decide) rfl (fun ls hl => ?_)
    refine lv_iinc (v := 2) (lv' := [(4, .int 2), (3, .int 0), (2, .int 0), (0, .ref h0), (1, .int p1)]) hx hb dX11_wings_49 hl (k := 1) rfl (by decide) (by decide) rfl (fun ls hl => ?_)
    refine lv_goto (tgt := 25) hx hb dX11_wings_52 (by decide) ?_
    refine lv_iload hx hb dX11_wings_25 (lv_at hl 0 rfl) ?_
    refine lv_if_lt (tgt := 55) hx hb dX11_wings_27 (by decide) (fun c0 => absurd c0 (by decide)) (fun _ => ?_)
    refine lv_iload_n hx hb dX11_wings_30 rfl (lv_at hl 2 rfl) ?_
    refine lv_iload hx hb dX11_wings_31 (lv_at hl 0 rfl) ?_
    refine lv_ishr hx hb dX11_wings_33 ?_
    refine tI (y := 0) (by decide) ?_
    refine lv_iconst (v := 1) hx hb dX11_wings_34 (by decide) ?_
    refine lv_iand hx hb dX11_wings_35 ?_
    refine tI (y := 0) (by decide) ?_
    refine lv_iconst (v := 1) hx hb dX11_wings_36 (by decide) ?_
    refine lv_icmp_ne (tgt := 47) hx hb dX11_wings_37 (by decide) (fun _ => ?_) (fun c0 => absurd c0 (by decide))
    refine lv_iload_n hx hb dX11_wings_47 rfl (lv_at hl 1 rfl) ?_
    refine lv_istore_n (lv' := [(3, .int 0), (4, .int 2), (2, .int 0), (0, .ref h0), (1, .int p1)]) hx hb dX11_wings_48 rfl hl (by decide) rfl (fun ls hl => ?_)
    refine lv_iinc (v := 1) (lv' := [(4, .int 1), (3, .int 0), (2, .int 0), (0, .ref h0), (1, .int p1)]) hx hb dX11_wings_49 hl (k := 1) rfl (by decide) (by decide) rfl (fun ls hl => ?_)
    refine lv_goto (tgt := 25) hx hb dX11_wings_52 (by decide) ?_
    refine lv_iload hx hb dX11_wings_25 (lv_at hl 0 rfl) ?_
    refine lv_if_lt (tgt := 55) hx hb dX11_wings_27 (by decide) (fun c0 => absurd c0 (by decide)) (fun _ => ?_)
    refine lv_iload_n hx hb dX11_wings_30 rfl (lv_at hl 2 rfl) ?_
    refine lv_iload hx hb dX11_wings_31 (lv_at hl 0 rfl) ?_
    refine lv_ishr hx hb dX11_wings_33 ?_
    refine tI (y := 0) (by decide) ?_
    refine lv_iconst (v := 1) hx hb dX11_wings_34 (by decide) ?_
    refine lv_iand hx hb dX11_wings_35 ?_
    refine tI (y := 0) (by decide) ?_
    refine lv_iconst (v := 1) hx hb dX11_wings_36 (by decide) ?_
    refine lv_icmp_ne (tgt := 47) hx hb dX11_wings_37 (by decide) (fun _ => ?_) (fun c0 => absurd c0 (by decide))
    refine lv_iload_n hx hb dX11_wings_47 rfl (lv_at hl 1 rfl) ?_
    refine lv_istore_n (lv' := [(3, .int 0), (4, .int 1), (2, .int 0), (0, .ref h0), (1, .int p1)]) hx hb dX11_wings_48 rfl hl (by decide) rfl (fun ls hl => ?_)
    refine lv_iinc (v := 0) (lv' := [(4, .int 0), (3, .int 0), (2, .int 0), (0, .ref h0), (1, .int p1)]) hx hb dX11_wings_49 hl (k := 1) rfl (by decide) (by decide) rfl (fun ls hl => ?_)
    refine lv_goto (tgt := 25) hx hb dX11_wings_52 (by decide) ?_
    refine lv_iload hx hb dX11_wings_25 (lv_at hl 0 rfl) ?_
    refine lv_if_lt (tgt := 55) hx hb dX11_wings_27 (by decide) (fun c0 => absurd c0 (by decide)) (fun _ => ?_)
    refine lv_iload_n hx hb dX11_wings_30 rfl (lv_at hl 2 rfl) ?_
    refine lv_iload hx hb dX11_wings_31 (lv_at hl 0 rfl) ?_
    refine lv_ishr hx hb dX11_wings_33 ?_
    refine tI (y := 0) (by decide) ?_
    refine lv_iconst (v := 1) hx hb dX11_wings_34 (by decide) ?_
    refine lv_iand hx hb dX11_wings_35 ?_
    refine tI (y := 0) (by decide) ?_
    refine lv_iconst (v := 1) hx hb dX11_wings_36 (by decide) ?_
    refine lv_icmp_ne (tgt := 47) hx hb dX11_wings_37 (by decide) (fun _ => ?_) (fun c0 => absurd c0 (by decide))
    refine lv_iload_n hx hb dX11_wings_47 rfl (lv_at hl 1 rfl) ?_
    refine lv_istore_n (lv' := [(3, .int 0), (4, .int 0), (2, .int 0), (0, .ref h0), (1, .int p1)]) hx hb dX11_wings_48 rfl hl (by decide) rfl (fun ls hl => ?_)
    refine lv_iinc (v := (-1)) (lv' := [(4, .int (-1)), (3, .int 0), (2, .int 0), (0, .ref h0), (1, .int p1)]) hx hb dX11_wings_49 hl (k := 1) rfl (by decide) (by decide) rfl (fun ls hl => ?_)
    refine lv_goto (tgt := 25) hx hb dX11_wings_52 (by decide) ?_
    refine lv_iload hx hb dX11_wings_25 (lv_at hl 0 rfl) ?_
    refine lv_if_lt (tgt := 55) hx hb dX11_wings_27 (by decide) (fun _ => ?_) (fun c0 => absurd (by decide) c0)
    refine lv_iload_n hx hb dX11_wings_55 rfl (lv_at hl 2 rfl) ?_
    refine lv_istore (lv' := [(4, .int 0), (3, .int 0), (2, .int 0), (0, .ref h0), (1, .int p1)]) hx hb dX11_wings_56 hl (by decide) rfl (fun ls hl => ?_)
    refine lv_aload_n hx hb dX11_wings_58 rfl (lv_at hl 3 rfl) ?_
    refine lv_iload_n hx hb dX11_wings_59 rfl (lv_at hl 2 rfl) ?_
    refine caVi (n := 1) (wr := [((r 59), .inl (cy 1, 39, .inl zF)), ((r 60), .inl (cy 1, 39, .inl zF))]) (rest := []) hx hb hml hown hts hE hP hD hS hA (cnX11_wideOf_1 l dC dI cy h0 r) k_1912 k_1914 k_88 k_114 k_1915 (by decide +kernel) ⟨Nat.le_of_ble_eq_true rfl, Nat.le_of_ble_eq_true rfl⟩ [2] [0, 1] rfl rfl rfl (by decide) (by decide) (by decide) 0 11 rfl rfl rfl hl.1 rfl (Nat.le_of_ble_eq_true rfl) dX11_wings_60 ⟨Nat.le_of_ble_eq_true rfl, Nat.le_of_ble_eq_true rfl⟩ (fun rr u H locs hw hP hD hS => ?_)
    have hP : va_P (dC, dI) vwCl [((r 59), .inl (cy 1, 39, .inl zF)), ((r 60), .inl (cy 1, 39, .inl zF)), (h0, .inr (11, mFs r mv0))] H := hP
    have hD : va_D A [((r 59), .inl (cy 1, 39, .inl zF)), ((r 60), .inl (cy 1, 39, .inl zF)), (h0, .inr (11, mFs r mv0))] := hD
    refine tI (y := 0) hw ?_
    refine lv_istore (lv' := [(5, .int 0), (4, .int 0), (3, .int 0), (2, .int 0), (0, .ref h0), (1, .int p1)]) hx hb dX11_wings_63 hl (by decide) rfl (fun ls hl => ?_)
    refine lv_iconst (v := 0) hx hb dX11_wings_65 (by decide) ?_
    refine lv_istore (lv' := [(6, .int 0), (5, .int 0), (4, .int 0), (3, .int 0), (2, .int 0), (0, .ref h0), (1, .int p1)]) hx hb dX11_wings_66 hl (by decide) rfl (fun ls hl => ?_)
    refine lv_iload hx hb dX11_wings_68 (lv_at hl 0 rfl) ?_
    refine lv_iload_n hx hb dX11_wings_70 rfl (lv_at hl 4 rfl) ?_
    refine lv_icmp_gt (tgt := 154) hx hb dX11_wings_71 (by decide) (fun c0 => absurd c0 (by decide)) (fun _ => ?_)
    refine lv_iload hx hb dX11_wings_74 (lv_at hl 0 rfl) ?_
    refine lv_iload_n hx hb dX11_wings_76 rfl (lv_at hl 4 rfl) ?_
    refine lv_iconst (v := (-1)) hx hb dX11_wings_77 (by decide) ?_
    refine lv_ixor hx hb dX11_wings_78 ?_
    refine tI (y := (-1)) (by decide) ?_
    refine lv_iand hx hb dX11_wings_79 ?_
    refine tI (y := 0) (by decide) ?_
    refine lv_if_ne (tgt := 148) hx hb dX11_wings_80 (by decide) (fun c0 => absurd (by decide) c0) (fun _ => ?_)
    refine lv_iload hx hb dX11_wings_83 (lv_at hl 0 rfl) ?_
    refine lv_iload_n hx hb dX11_wings_85 rfl (lv_at hl 3 rfl) ?_
    refine lv_iand hx hb dX11_wings_86 ?_
    refine tI (y := 0) (by decide) ?_
    refine lv_iload_n hx hb dX11_wings_87 rfl (lv_at hl 3 rfl) ?_
    refine lv_icmp_eq (tgt := 94) hx hb dX11_wings_88 (by decide) (fun _ => ?_) (fun c0 => absurd (by decide) c0)
    refine lv_aload_n hx hb dX11_wings_94 rfl (lv_at hl 5 rfl) ?_
    refine lv_iload hx hb dX11_wings_95 (lv_at hl 0 rfl) ?_
    refine caVi (n := 1) (wr := [((r 59), .inl (cy 1, 39, .inl zF)), ((r 60), .inl (cy 1, 39, .inl zF))]) (rest := []) hx hb hml hown hts hE hP hD hS hA (cnX11_wideOf_1 l dC dI cy h0 r) k_1912 k_1914 k_88 k_114 k_1915 (by decide +kernel) ⟨Nat.le_of_ble_eq_true rfl, Nat.le_of_ble_eq_true rfl⟩ [2] [0, 1] rfl rfl rfl (by decide) (by decide) (by decide) 0 11 rfl rfl rfl hl.1 rfl (Nat.le_of_ble_eq_true rfl) dX11_wings_97 ⟨Nat.le_of_ble_eq_true rfl, Nat.le_of_ble_eq_true rfl⟩ (fun rr u H locs hw hP hD hS => ?_)
    have hP : va_P (dC, dI) vwCl [((r 59), .inl (cy 1, 39, .inl zF)), ((r 60), .inl (cy 1, 39, .inl zF)), (h0, .inr (11, mFs r mv0))] H := hP
    have hD : va_D A [((r 59), .inl (cy 1, 39, .inl zF)), ((r 60), .inl (cy 1, 39, .inl zF)), (h0, .inr (11, mFs r mv0))] := hD
    refine tI (y := 0) hw ?_
    refine lv_aload_n hx hb dX11_wings_100 rfl (lv_at hl 5 rfl) ?_
    refine lv_iload_n hx hb dX11_wings_101 rfl (lv_at hl 4 rfl) ?_
    refine lv_iload hx hb dX11_wings_102 (lv_at hl 0 rfl) ?_
    refine lv_iconst (v := (-1)) hx hb dX11_wings_104 (by decide) ?_
    refine lv_ixor hx hb dX11_wings_105 ?_
    refine tI (y := (-1)) (by decide) ?_
    refine lv_iand hx hb dX11_wings_106 ?_
    refine tI (y := 0) (by decide) ?_
    refine caVi (n := 1) (wr := [((r 59), .inl (cy 1, 39, .inl zF)), ((r 60), .inl (cy 1, 39, .inl zF))]) (rest := [.int 0]) hx hb hml hown hts hE hP hD hS hA (cnX11_wideOf_1 l dC dI cy h0 r) k_1912 k_1914 k_88 k_114 k_1915 (by decide +kernel) ⟨Nat.le_of_ble_eq_true rfl, Nat.le_of_ble_eq_true rfl⟩ [2] [0, 1] rfl rfl rfl (by decide) (by decide) (by decide) 0 11 rfl rfl rfl hl.1 rfl (Nat.le_of_ble_eq_true rfl) dX11_wings_107 ⟨Nat.le_of_ble_eq_true rfl, Nat.le_of_ble_eq_true rfl⟩ (fun rr u H locs hw hP hD hS => ?_)
    have hP : va_P (dC, dI) vwCl [((r 59), .inl (cy 1, 39, .inl zF)), ((r 60), .inl (cy 1, 39, .inl zF)), (h0, .inr (11, mFs r mv0))] H := hP
    have hD : va_D A [((r 59), .inl (cy 1, 39, .inl zF)), ((r 60), .inl (cy 1, 39, .inl zF)), (h0, .inr (11, mFs r mv0))] := hD
    refine tI (y := 0) hw ?_
    refine lv_isub hx hb dX11_wings_110 ?_
    refine tI (y := 0) (by decide) ?_
    refine caSi (n := 1) (wr := [((r 59), .inl (cy 1, 39, .inl zF)), ((r 60), .inl (cy 1, 39, .inl zF)), (h0, .inr (11, mFs r mv0))]) (rest := []) hx hb hml hown hts hE hP hD hS hA (cnX11_plain_1 l dC dI cy ) k_1920 k_1921 k_114 k_1922 (by decide +kernel) ⟨Nat.le_of_ble_eq_true rfl, Nat.le_of_ble_eq_true rfl⟩ [] [0, 1, 2] rfl rfl rfl (by decide) (by decide) (by decide) rfl hl.1 rfl (Nat.le_of_ble_eq_true rfl) dX11_wings_111 ⟨Nat.le_of_ble_eq_true rfl, Nat.le_of_ble_eq_true rfl⟩ (fun rr u H locs hw hP hD hS => ?_)
    have hP : va_P (dC, dI) vwCl [((r 59), .inl (cy 1, 39, .inl zF)), ((r 60), .inl (cy 1, 39, .inl zF)), (h0, .inr (11, mFs r mv0))] H := hP
    have hD : va_D A [((r 59), .inl (cy 1, 39, .inl zF)), ((r 60), .inl (cy 1, 39, .inl zF)), (h0, .inr (11, mFs r mv0))] := hD
    refine tI (y := 0) hw ?_
    refine lv_istore (lv' := [(7, .int 0), (6, .int 0), (5, .int 0), (4, .int 0), (3, .int 0), (2, .int 0), (0, .ref h0), (1, .int p1)]) hx hb dX11_wings_114 hl (by decide) rfl (fun ls hl => ?_)
    refine lv_iload hx hb dX11_wings_116 (lv_at hl 0 rfl) ?_
    refine lv_iload hx hb dX11_wings_118 (lv_at hl 2 rfl) ?_
    refine lv_icmp_gt (tgt := 148) hx hb dX11_wings_120 (by decide) (fun c0 => absurd c0 (by decide)) (fun _ => ?_)
    refine lv_iload hx hb dX11_wings_123 (lv_at hl 0 rfl) ?_
    refine lv_iload hx hb dX11_wings_125 (lv_at hl 2 rfl) ?_
    refine lv_icmp_ne (tgt := 140) hx hb dX11_wings_127 (by decide) (fun c0 => absurd (by decide) c0) (fun _ => ?_)
    refine lv_iload hx hb dX11_wings_130 (lv_at hl 1 rfl) ?_
    refine lv_iload hx hb dX11_wings_132 (lv_at hl 3 rfl) ?_
    refine lv_icmp_lt (tgt := 140) hx hb dX11_wings_134 (by decide) (fun c0 => absurd c0 (by decide)) (fun _ => ?_)
    refine lv_goto (tgt := 148) hx hb dX11_wings_137 (by decide) ?_
    refine lv_iinc (v := 1) (lv' := [(6, .int 1), (7, .int 0), (5, .int 0), (4, .int 0), (3, .int 0), (2, .int 0), (0, .ref h0), (1, .int p1)]) hx hb dX11_wings_148 hl (k := 1) rfl (by decide) (by decide) rfl (fun ls hl => ?_)
    refine lv_goto (tgt := 68) hx hb dX11_wings_151 (by decide) ?_
    refine lv_iload hx hb dX11_wings_68 (lv_at hl 0 rfl) ?_
    refine lv_iload_n hx hb dX11_wings_70 rfl (lv_at hl 5 rfl) ?_
    refine lv_icmp_gt (tgt := 154) hx hb dX11_wings_71 (by decide) (fun _ => ?_) (fun c0 => absurd (by decide) c0)
    refine lv_iload_n hx hb dX11_wings_154 rfl (lv_at hl 7 rfl) ?_
    refine lv_if_ne (tgt := 163) hx hb dX11_wings_155 (by decide) (fun c2 => ?_) (fun c2 => ?_)
    · skip
      refine lv_iload hx hb dX11_wings_163 (lv_at hl 3 rfl) ?_
      exact ret 0 () _ _ _ _ _ _ rfl (pt_X11_wings_390 p1 c1 c1 c2) (hP.sub [] rfl) (hD.sub [] (by decide) rfl) hS dX11_wings_165 (Nat.le_of_ble_eq_true rfl) (Nat.le_of_ble_eq_true rfl)
    · skip
      refine lv_iload hx hb dX11_wings_158 (lv_at hl 2 rfl) ?_
      refine lv_goto (tgt := 165) hx hb dX11_wings_160 (by decide) ?_
      exact ret 0 () _ _ _ _ _ _ rfl (pt_X11_wings_391 p1 c1 c1 c2) (hP.sub [] rfl) (hD.sub [] (by decide) rfl) hS dX11_wings_165 (Nat.le_of_ble_eq_true rfl) (Nat.le_of_ble_eq_true rfl)
  · skip
    refine caSi (n := 3) (wr := [(h0, .inr (11, mFs r mv0)), ((r 59), .inl (cy 1, 39, .inl zF)), ((r 60), .inl (cy 1, 39, .inl zF))]) (rest := []) hx hb hml hown hts hE hP hD hS hA (cnX11_isIn_3 l dC dI cy p1 c1) k_1736 k_1737 k_114 k_1738 (by decide +kernel) ⟨Nat.le_of_ble_eq_true rfl, Nat.le_of_ble_eq_true rfl⟩ [] [0, 1, 2] rfl rfl rfl (by decide) (by decide) (by decide) rfl hl.1 rfl (Nat.le_of_ble_eq_true rfl) dX11_wings_3 ⟨Nat.le_of_ble_eq_true rfl, Nat.le_of_ble_eq_true rfl⟩ (fun rr u H locs hw hP hD hS => ?_)
    have hP : va_P (dC, dI) vwCl [(h0, .inr (11, mFs r mv0)), ((r 59), .inl (cy 1, 39, .inl zF)), ((r 60), .inl (cy 1, 39, .inl zF))] H := hP
    have hD : va_D A [(h0, .inr (11, mFs r mv0)), ((r 59), .inl (cy 1, 39, .inl zF)), ((r 60), .inl (cy 1, 39, .inl zF))] := hD
    refine tI (y := 0) hw ?_
    refine lv_if_ne (tgt := 11) hx hb dX11_wings_6 (by decide) (fun c0 => absurd (by decide) c0) (fun _ => ?_)
    refine lv_iconst (v := (-1)) hx hb dX11_wings_9 (by decide) ?_
    exact ret (-1) () _ _ _ _ _ _ rfl (pt_X11_wings_392 p1 c1) (hP.sub [] rfl) (hD.sub [] (by decide) rfl) hS dX11_wings_10 (Nat.le_of_ble_eq_true rfl) (Nat.le_of_ble_eq_true rfl)
set_option maxHeartbeats 4000000 in
set_option maxRecDepth 100000 in
theorem cnX2_leastCloth_1 (l : Launch) (dC : Nat → ClassId) (dI : Nat → Nat → Nat) (cy : Nat → ClassId) (h0 : Nat) (h1 : Nat) (h2 : Nat) (b0 : Nat) (b1 : Nat) (b2 : Nat) (b3 : Nat) : ctI l (dC, dI) cy yX2_leastCloth cX2_leastCloth 3 .int 1 60 0 0 Unit [.ref h0] [(h0, .inr (2, [.ref h1, .ref b0, .ref h2])), (h1, .inr (7, [.ref b1, .ref b2, .ref b3, .int 0, .int 0, .int 10, .int 150, .int 2, .int 0, .int 0])), (h2, .inl (cy 1, 64, .inl zF))] (fun r _ => r = 0) (fun u => [(h0, .inr (2, [.ref h1, .ref b0, .ref h2])), (h1, .inr (7, [.ref b1, .ref b2, .ref b3, .int 0, .int 0, .int 10, .int 150, .int 2, .int 0, .int 0])), (h2, .inl (cy 1, 64, .inl zF))]) := by
  refine ctI_of (by decide) (Nat.le_of_ble_eq_true rfl) (fun p e s m below meth c A ls Q hx hb hml hts hown hE hP hD hA hl ret => ?_)
  have hown : s.vm.findClass RX2 = some m.cls := hown
  have hS : va_S A s.heap s.heap [] := va_S.rf
  have hl : lv_has ls 3 [(0, .ref h0)] := hl
  refine lv_iconst (v := 1) hx hb dX2_leastCloth_0 (by decide) ?_
  refine lv_aload_n hx hb dX2_leastCloth_1 rfl (lv_at hl 0 rfl) ?_
  refine va_get (D := (dC, dI)) (ci := 2) (v := .ref h1) (C := RX2) (T := TX2) (N := 3) hx hb hts inB_2 hown hE.1 hP 0 rfl rfl 0 (by decide) (hts _ k_414) (fun _ h9 => h9) rfl dX2_leastCloth_2 ?_
  refine va_getN (D := (dC, dI)) (ci := 7) (v := .int 0) (C := RX7) (T := TX7) (N := 10) hx hb hts inB_7 hown hE.1 hP 1 rfl rfl 4 (by decide) (va_Nw.use rfl (hE.2 _ k_223)) (fun _ h9 => h9) rfl dX2_leastCloth_5 ?_
  refine lv_ishl hx hb dX2_leastCloth_8 ?_
  refine tI (y := 1) (by decide) ?_
  refine lv_iconst (v := 1) hx hb dX2_leastCloth_9 (by decide) ?_
  refine lv_isub hx hb dX2_leastCloth_10 ?_
  refine tI (y := 0) (by decide) ?_
  refine lv_istore_n (lv' := [(1, .int 0), (0, .ref h0)]) hx hb dX2_leastCloth_11 rfl hl (by decide) rfl (fun ls hl => ?_)
  refine lv_iconst (v := 0) hx hb dX2_leastCloth_12 (by decide) ?_
  refine lv_istore_n (lv' := [(2, .int 0), (1, .int 0), (0, .ref h0)]) hx hb dX2_leastCloth_13 rfl hl (by decide) rfl (fun ls hl => ?_)
  refine lv_iload_n hx hb dX2_leastCloth_14 rfl (lv_at hl 0 rfl) ?_
  refine lv_aload_n hx hb dX2_leastCloth_15 rfl (lv_at hl 2 rfl) ?_
  refine va_get (D := (dC, dI)) (ci := 2) (v := .ref h1) (C := RX2) (T := TX2) (N := 3) hx hb hts inB_2 hown hE.1 hP 0 rfl rfl 0 (by decide) (hts _ k_414) (fun _ h9 => h9) rfl dX2_leastCloth_16 ?_
  refine va_getN (D := (dC, dI)) (ci := 7) (v := .int 0) (C := RX7) (T := TX7) (N := 10) hx hb hts inB_7 hown hE.1 hP 1 rfl rfl 4 (by decide) (va_Nw.use rfl (hE.2 _ k_223)) (fun _ h9 => h9) rfl dX2_leastCloth_19 ?_
  refine lv_icmp_ge (tgt := 52) hx hb dX2_leastCloth_22 (by decide) (fun _ => ?_) (fun c0 => absurd (by decide) c0)
  refine lv_aload_n hx hb dX2_leastCloth_52 rfl (lv_at hl 2 rfl) ?_
  refine va_get (D := (dC, dI)) (ci := 2) (v := .ref h2) (C := RX2) (T := TX2) (N := 3) hx hb hts inB_2 hown hE.1 hP 0 rfl rfl 2 (by decide) (hts _ k_416) (fun _ h9 => h9) rfl dX2_leastCloth_53 ?_
  refine lv_iconst (v := 0) hx hb dX2_leastCloth_56 (by decide) ?_
  refine lv_iconst (v := 0) hx hb dX2_leastCloth_57 (by decide) ?_
  refine stI (k := 0) hx hb hE hP hD hS 2 rfl (vp_in_nI (n := 0) (by decide) (by decide)) (nI_clamp (n := 0) (by decide)) dX2_leastCloth_58 (fun H locs hP hD hS => ?_)
  have eU : upd zF 0 0 = zF := upd_same rfl
  rw [eU] at hP hD
  have hP : va_P (dC, dI) vwCl [(h0, .inr (2, [.ref h1, .ref b0, .ref h2])), (h1, .inr (7, [.ref b1, .ref b2, .ref b3, .int 0, .int 0, .int 10, .int 150, .int 2, .int 0, .int 0])), (h2, .inl (cy 1, 64, .inl zF))] H := hP
  have hD : va_D A [(h0, .inr (2, [.ref h1, .ref b0, .ref h2])), (h1, .inr (7, [.ref b1, .ref b2, .ref b3, .int 0, .int 0, .int 10, .int 150, .int 2, .int 0, .int 0])), (h2, .inl (cy 1, 64, .inl zF))] := hD
  refine lv_iconst (v := 1) hx hb dX2_leastCloth_59 (by decide) ?_
  refine lv_istore_n (lv' := [(2, .int 1), (1, .int 0), (0, .ref h0)]) hx hb dX2_leastCloth_60 rfl hl (by decide) rfl (fun ls hl => ?_)
  refine lv_iload_n hx hb dX2_leastCloth_61 rfl (lv_at hl 0 rfl) ?_
  refine lv_iload_n hx hb dX2_leastCloth_62 rfl (lv_at hl 1 rfl) ?_
  refine lv_icmp_gt (tgt := 89) hx hb dX2_leastCloth_63 (by decide) (fun _ => ?_) (fun c0 => absurd (by decide) c0)
  refine lv_iload_n hx hb dX2_leastCloth_89 rfl (lv_at hl 1 rfl) ?_
  refine lv_if_lt (tgt := 108) hx hb dX2_leastCloth_90 (by decide) (fun c0 => absurd c0 (by decide)) (fun _ => ?_)
  refine lv_iload_n hx hb dX2_leastCloth_93 rfl (lv_at hl 1 rfl) ?_
  refine lv_bipush (v := 64) hx hb dX2_leastCloth_94 (by decide) ?_
  refine lv_icmp_ge (tgt := 108) hx hb dX2_leastCloth_96 (by decide) (fun c0 => absurd c0 (by decide)) (fun _ => ?_)
  refine lv_aload_n hx hb dX2_leastCloth_99 rfl (lv_at hl 2 rfl) ?_
  refine va_get (D := (dC, dI)) (ci := 2) (v := .ref h2) (C := RX2) (T := TX2) (N := 3) hx hb hts inB_2 hown hE.1 hP 0 rfl rfl 2 (by decide) (hts _ k_416) (fun _ h9 => h9) rfl dX2_leastCloth_100 ?_
  refine lv_iload_n hx hb dX2_leastCloth_103 rfl (lv_at hl 1 rfl) ?_
  refine ldI (k := 0) (v := 0) hx hb hE hP 2 rfl (vp_in_nI (n := 0) (by decide) (by decide)) (nI_clamp (n := 0) (by decide)) rfl dX2_leastCloth_104 ?_
  refine lv_goto (tgt := 109) hx hb dX2_leastCloth_105 (by decide) ?_
  exact ret 0 () _ _ _ _ _ _ rfl rfl (hP.sub [0, 1, 2] rfl) (hD.sub [0, 1, 2] (by decide) rfl) hS dX2_leastCloth_109 (Nat.le_of_ble_eq_true rfl) (Nat.le_of_ble_eq_true rfl)
theorem pt_X10_cloth_393 : (0 : Int32) = F_cloth  := by
  unfold F_cloth
  (repeat' split)
  all_goals first | rfl | assumption | (exfalso; simp only [fa_lt, fa_le, fa_eq, tl_0] at *; omega) | (simp only [fa_lt, fa_le, fa_eq, tl_0] at *; omega)
set_option maxHeartbeats 4000000 in
set_option maxRecDepth 100000 in
theorem cnX10_cloth_1 (l : Launch) (dC : Nat → ClassId) (dI : Nat → Nat → Nat) (cy : Nat → ClassId) (h0 : Nat) (h1 : Nat) (h2 : Nat) (h3 : Nat) (b0 : Nat) (b1 : Nat) (b2 : Nat) (b3 : Nat) (b4 : Nat) (b5 : Nat) (b6 : Nat) (b7 : Nat) (b8 : Nat) (b9 : Nat) : ctI l (dC, dI) cy yX10_cloth cX10_cloth 1 .int 2 82 0 0 Unit [.ref h0] [(h0, .inr (10, [.ref b0, .ref b1, .ref h2, .ref b2, .ref b3, .ref b4, .ref h1, .ref b5, .ref b6, .int 0])), (h1, .inr (2, [.ref h2, .ref b2, .ref h3])), (h2, .inr (7, [.ref b7, .ref b8, .ref b9, .int 0, .int 0, .int 10, .int 150, .int 2, .int 0, .int 0])), (h3, .inl (cy 1, 64, .inl zF))] (fun r _ => r = F_cloth ) (fun u => []) := by
  refine ctI_of (by decide) (Nat.le_of_ble_eq_true rfl) (fun p e s m below meth c A ls Q hx hb hml hts hown hE hP hD hA hl ret => ?_)
  have hown : s.vm.findClass RX10 = some m.cls := hown
  have hS : va_S A s.heap s.heap [] := va_S.rf
  have hl : lv_has ls 1 [(0, .ref h0)] := hl
  refine lv_aload_n hx hb dX10_cloth_0 rfl (lv_at hl 0 rfl) ?_
  refine va_get (D := (dC, dI)) (ci := 10) (v := .ref h1) (C := RX10) (T := TX10) (N := 10) hx hb hts inB_10 hown hE.1 hP 0 rfl rfl 6 (by decide) (hts _ k_497) (fun _ h9 => h9) rfl dX10_cloth_1 ?_
  refine caVi (n := 0) (wr := [(h0, .inr (10, [.ref b0, .ref b1, .ref h2, .ref b2, .ref b3, .ref b4, .ref h1, .ref b5, .ref b6, .int 0]))]) (rest := []) hx hb hml hown hts hE hP hD hS hA (cnX2_leastCloth_1 l dC dI cy h1 h2 h3 b2 b7 b8 b9) k_1097 k_1098 k_1099 k_110 k_1100 (by decide +kernel) ⟨Nat.le_of_ble_eq_true rfl, Nat.le_of_ble_eq_true rfl⟩ [1, 2, 3] [0] rfl rfl rfl (by decide) (by decide) (by decide) 0 2 rfl rfl rfl hl.1 rfl (Nat.le_of_ble_eq_true rfl) dX10_cloth_4 ⟨Nat.le_of_ble_eq_true rfl, Nat.le_of_ble_eq_true rfl⟩ (fun rr u H locs hw hP hD hS => ?_)
  have hP : va_P (dC, dI) vwCl [(h0, .inr (10, [.ref b0, .ref b1, .ref h2, .ref b2, .ref b3, .ref b4, .ref h1, .ref b5, .ref b6, .int 0])), (h1, .inr (2, [.ref h2, .ref b2, .ref h3])), (h2, .inr (7, [.ref b7, .ref b8, .ref b9, .int 0, .int 0, .int 10, .int 150, .int 2, .int 0, .int 0])), (h3, .inl (cy 1, 64, .inl zF))] H := hP
  have hD : va_D A [(h0, .inr (10, [.ref b0, .ref b1, .ref h2, .ref b2, .ref b3, .ref b4, .ref h1, .ref b5, .ref b6, .int 0])), (h1, .inr (2, [.ref h2, .ref b2, .ref h3])), (h2, .inr (7, [.ref b7, .ref b8, .ref b9, .int 0, .int 0, .int 10, .int 150, .int 2, .int 0, .int 0])), (h3, .inl (cy 1, 64, .inl zF))] := hD
  refine tI (y := 0) hw ?_
  exact ret 0 () _ _ _ _ _ _ rfl (pt_X10_cloth_393 ) (hP.sub [] rfl) (hD.sub [] (by decide) rfl) hS dX10_cloth_7 (Nat.le_of_ble_eq_true rfl) (Nat.le_of_ble_eq_true rfl)
theorem pt_X11_cloth_394 : (0 : Int32) = F_cloth  := by
  unfold F_cloth
  (repeat' split)
  all_goals first | rfl | assumption | (exfalso; simp only [fa_lt, fa_le, fa_eq, tl_0] at *; omega) | (simp only [fa_lt, fa_le, fa_eq, tl_0] at *; omega)
set_option maxHeartbeats 4000000 in
set_option maxRecDepth 100000 in
theorem cnX11_cloth_1 (l : Launch) (dC : Nat → ClassId) (dI : Nat → Nat → Nat) (cy : Nat → ClassId) (h0 : Nat) (r : Nat → Nat) : ctI l (dC, dI) cy yX11_cloth cX11_cloth 3 .int 1 60 0 0 Unit [.ref h0] [(h0, .inr (11, mFs r mv0)), ((r 68), .inl (cy 1, 64, .inl zF))] (fun r _ => r = F_cloth ) (fun u => []) := by
  refine ctI_of (by decide) (Nat.le_of_ble_eq_true rfl) (fun p e s m below meth c A ls Q hx hb hml hts hown hE hP hD hA hl ret => ?_)
  have hown : s.vm.findClass RX11 = some m.cls := hown
  have hS : va_S A s.heap s.heap [] := va_S.rf
  have hl : lv_has ls 3 [(0, .ref h0)] := hl
  refine lv_aload_n hx hb dX11_cloth_0 rfl (lv_at hl 0 rfl) ?_
  refine va_get (D := (dC, dI)) (ci := 11) (v := .ref (r 68)) (C := RX11) (T := TX11) (N := 79) hx hb hts inB_11 hown hE.1 hP 0 rfl rfl 68 (by decide) (hts _ k_1388) (fun _ h9 => h9) rfl dX11_cloth_1 ?_
  refine lv_iconst (v := 0) hx hb dX11_cloth_4 (by decide) ?_
  refine lv_iconst (v := 0) hx hb dX11_cloth_5 (by decide) ?_
  refine stI (k := 0) hx hb hE hP hD hS 1 rfl (vp_in_nI (n := 0) (by decide) (by decide)) (nI_clamp (n := 0) (by decide)) dX11_cloth_6 (fun H locs hP hD hS => ?_)
  have eU : upd zF 0 0 = zF := upd_same rfl
  rw [eU] at hP hD
  have hP : va_P (dC, dI) vwCl [(h0, .inr (11, mFs r mv0)), ((r 68), .inl (cy 1, 64, .inl zF))] H := hP
  have hD : va_D A [(h0, .inr (11, mFs r mv0)), ((r 68), .inl (cy 1, 64, .inl zF))] := hD
  refine lv_iconst (v := 1) hx hb dX11_cloth_7 (by decide) ?_
  refine lv_istore_n (lv' := [(1, .int 1), (0, .ref h0)]) hx hb dX11_cloth_8 rfl hl (by decide) rfl (fun ls hl => ?_)
  refine lv_iload_n hx hb dX11_cloth_9 rfl (lv_at hl 0 rfl) ?_
  refine lv_iconst (v := 1) hx hb dX11_cloth_10 (by decide) ?_
  refine lv_aload_n hx hb dX11_cloth_11 rfl (lv_at hl 1 rfl) ?_
  refine va_get (D := (dC, dI)) (ci := 11) (v := .int 0) (C := RX11) (T := TX11) (N := 79) hx hb hts inB_11 hown hE.1 hP 0 rfl rfl 49 (by decide) (hts _ k_1369) (fun _ h9 => h9) rfl dX11_cloth_12 ?_
  refine lv_ishl hx hb dX11_cloth_15 ?_
  refine tI (y := 1) (by decide) ?_
  refine lv_icmp_ge (tgt := 86) hx hb dX11_cloth_16 (by decide) (fun _ => ?_) (fun c0 => absurd (by decide) c0)
  refine lv_aload_n hx hb dX11_cloth_86 rfl (lv_at hl 1 rfl) ?_
  refine va_get (D := (dC, dI)) (ci := 11) (v := .ref (r 68)) (C := RX11) (T := TX11) (N := 79) hx hb hts inB_11 hown hE.1 hP 0 rfl rfl 68 (by decide) (hts _ k_1388) (fun _ h9 => h9) rfl dX11_cloth_87 ?_
  refine lv_iconst (v := 1) hx hb dX11_cloth_90 (by decide) ?_
  refine lv_aload_n hx hb dX11_cloth_91 rfl (lv_at hl 1 rfl) ?_
  refine va_get (D := (dC, dI)) (ci := 11) (v := .int 0) (C := RX11) (T := TX11) (N := 79) hx hb hts inB_11 hown hE.1 hP 0 rfl rfl 49 (by decide) (hts _ k_1369) (fun _ h9 => h9) rfl dX11_cloth_92 ?_
  refine lv_ishl hx hb dX11_cloth_95 ?_
  refine tI (y := 1) (by decide) ?_
  refine lv_iconst (v := 1) hx hb dX11_cloth_96 (by decide) ?_
  refine lv_isub hx hb dX11_cloth_97 ?_
  refine tI (y := 0) (by decide) ?_
  refine ldI (k := 0) (v := 0) hx hb hE hP 1 rfl (vp_in_nI (n := 0) (by decide) (by decide)) (nI_clamp (n := 0) (by decide)) rfl dX11_cloth_98 ?_
  refine lv_istore_n (lv' := [(1, .int 0), (0, .ref h0)]) hx hb dX11_cloth_99 rfl hl (by decide) rfl (fun ls hl => ?_)
  refine lv_iload_n hx hb dX11_cloth_100 rfl (lv_at hl 0 rfl) ?_
  refine lv_ldcw (v := 1000000) hx hb hown (hts _ k_1927) dX11_cloth_101 ?_
  refine lv_icmp_lt (tgt := 111) hx hb dX11_cloth_104 (by decide) (fun _ => ?_) (fun c0 => absurd (by decide) c0)
  refine lv_iload_n hx hb dX11_cloth_111 rfl (lv_at hl 0 rfl) ?_
  exact ret 0 () _ _ _ _ _ _ rfl (pt_X11_cloth_394 ) (hP.sub [] rfl) (hD.sub [] (by decide) rfl) hS dX11_cloth_112 (Nat.le_of_ble_eq_true rfl) (Nat.le_of_ble_eq_true rfl)
set_option maxHeartbeats 4000000 in
set_option maxRecDepth 100000 in
theorem cnX0_painted_1 (l : Launch) (dC : Nat → ClassId) (dI : Nat → Nat → Nat) (cy : Nat → ClassId) (h0 : Nat) (h1 : Nat) (b0 : Nat) (b1 : Nat) (b2 : Nat) (b3 : Nat) (b4 : Nat) (b5 : Nat) (b6 : Nat) : ctI l (dC, dI) cy yX0_painted cX0_painted 4 .boolean 1 60 0 0 Unit [.ref h0, .int 0, .int 0] [(h0, .inr (0, [.ref h1, .ref b0, .ref b1, .int 0, .ref b2, .ref b3, .int 0, .int 0])), (h1, .inr (7, [.ref b4, .ref b5, .ref b6, .int 0, .int 0, .int 10, .int 150, .int 2, .int 0, .int 0]))] (fun r _ => r = 1) (fun u => [(h0, .inr (0, [.ref h1, .ref b0, .ref b1, .int 0, .ref b2, .ref b3, .int 0, .int 0])), (h1, .inr (7, [.ref b4, .ref b5, .ref b6, .int 0, .int 0, .int 10, .int 150, .int 2, .int 0, .int 0]))]) := by
  refine ctI_of (by decide) (Nat.le_of_ble_eq_true rfl) (fun p e s m below meth c A ls Q hx hb hml hts hown hE hP hD hA hl ret => ?_)
  have hown : s.vm.findClass RX0 = some m.cls := hown
  have hS : va_S A s.heap s.heap [] := va_S.rf
  have hl : lv_has ls 4 [(0, .ref h0), (1, .int 0), (2, .int 0)] := hl
  refine lv_iload_n hx hb dX0_painted_0 rfl (lv_at hl 1 rfl) ?_
  refine lv_aload_n hx hb dX0_painted_1 rfl (lv_at hl 0 rfl) ?_
  refine va_get (D := (dC, dI)) (ci := 0) (v := .ref h1) (C := RX0) (T := TX0) (N := 8) hx hb hts inB_0 hown hE.1 hP 0 rfl rfl 0 (by decide) (hts _ k_430) (fun _ h9 => h9) rfl dX0_painted_2 ?_
  refine va_getN (D := (dC, dI)) (ci := 7) (v := .int 0) (C := RX7) (T := TX7) (N := 10) hx hb hts inB_7 hown hE.1 hP 1 rfl rfl 3 (by decide) (va_Nw.use rfl (hE.2 _ k_216)) (fun _ h9 => h9) rfl dX0_painted_5 ?_
  refine lv_icmp_ge (tgt := 17) hx hb dX0_painted_8 (by decide) (fun _ => ?_) (fun c0 => absurd (by decide) c0)
  refine lv_iconst (v := 1) hx hb dX0_painted_17 (by decide) ?_
  exact ret 1 () _ _ _ _ _ _ rfl rfl (hP.sub [0, 1] rfl) (hD.sub [0, 1] (by decide) rfl) hS dX0_painted_18 (Nat.le_of_ble_eq_true rfl) (Nat.le_of_ble_eq_true rfl)
set_option maxHeartbeats 4000000 in
set_option maxRecDepth 100000 in
theorem cnX0_layColours_1 (l : Launch) (dC : Nat → ClassId) (dI : Nat → Nat → Nat) (cy : Nat → ClassId) (h0 : Nat) (h1 : Nat) (b0 : Nat) (b1 : Nat) (b2 : Nat) (b3 : Nat) (b4 : Nat) (b5 : Nat) (b6 : Nat) : ctI l (dC, dI) cy yX0_layColours cX0_layColours 2 .int 2 83 0 0 Unit [.ref h0] [(h0, .inr (0, [.ref h1, .ref b0, .ref b1, .int 0, .ref b2, .ref b3, .int 0, .int 0])), (h1, .inr (7, [.ref b4, .ref b5, .ref b6, .int 0, .int 0, .int 10, .int 150, .int 2, .int 0, .int 0]))] (fun r _ => r = 0) (fun u => [(h0, .inr (0, [.ref h1, .ref b0, .ref b1, .int 0, .ref b2, .ref b3, .int 0, .int 0])), (h1, .inr (7, [.ref b4, .ref b5, .ref b6, .int 0, .int 0, .int 10, .int 150, .int 2, .int 0, .int 0]))]) := by
  refine ctI_of (by decide) (Nat.le_of_ble_eq_true rfl) (fun p e s m below meth c A ls Q hx hb hml hts hown hE hP hD hA hl ret => ?_)
  have hown : s.vm.findClass RX0 = some m.cls := hown
  have hS : va_S A s.heap s.heap [] := va_S.rf
  have hl : lv_has ls 2 [(0, .ref h0)] := hl
  refine lv_aload_n hx hb dX0_layColours_0 rfl (lv_at hl 0 rfl) ?_
  refine caVv (n := 0) (wr := [(h1, .inr (7, [.ref b4, .ref b5, .ref b6, .int 0, .int 0, .int 10, .int 150, .int 2, .int 0, .int 0]))]) (rest := []) hx hb hml hown hts hE hP hD hS hA (cnX0_clear_1 l dC dI cy h0 h1 b0 b1 b2 b3) k_990 k_787 k_788 k_111 k_789 (by decide +kernel) ⟨Nat.le_of_ble_eq_true rfl, Nat.le_of_ble_eq_true rfl⟩ [0] [1] rfl rfl rfl (by decide) (by decide) (by decide) 0 0 rfl rfl rfl hl.1 rfl (Nat.le_of_ble_eq_true rfl) dX0_layColours_1 ⟨Nat.le_of_ble_eq_true rfl, Nat.le_of_ble_eq_true rfl⟩ (fun u H locs hw hP hD hS => ?_)
  have hP : va_P (dC, dI) vwCl [(h1, .inr (7, [.ref b4, .ref b5, .ref b6, .int 0, .int 0, .int 10, .int 150, .int 2, .int 0, .int 0])), (h0, .inr (0, [.ref h1, .ref b0, .ref b1, .int 0, .ref b2, .ref b3, .int 0, .int 0]))] H := hP
  have hD : va_D A [(h1, .inr (7, [.ref b4, .ref b5, .ref b6, .int 0, .int 0, .int 10, .int 150, .int 2, .int 0, .int 0])), (h0, .inr (0, [.ref h1, .ref b0, .ref b1, .int 0, .ref b2, .ref b3, .int 0, .int 0]))] := hD
  refine lv_iconst (v := 0) hx hb dX0_layColours_4 (by decide) ?_
  refine lv_istore_n (lv' := [(1, .int 0), (0, .ref h0)]) hx hb dX0_layColours_5 rfl hl (by decide) rfl (fun ls hl => ?_)
  refine lv_iload_n hx hb dX0_layColours_6 rfl (lv_at hl 0 rfl) ?_
  refine lv_aload_n hx hb dX0_layColours_7 rfl (lv_at hl 1 rfl) ?_
  refine va_get (D := (dC, dI)) (ci := 0) (v := .ref h1) (C := RX0) (T := TX0) (N := 8) hx hb hts inB_0 hown hE.1 hP 1 rfl rfl 0 (by decide) (hts _ k_430) (fun _ h9 => h9) rfl dX0_layColours_8 ?_
  refine va_getN (D := (dC, dI)) (ci := 7) (v := .int 0) (C := RX7) (T := TX7) (N := 10) hx hb hts inB_7 hown hE.1 hP 0 rfl rfl 3 (by decide) (va_Nw.use rfl (hE.2 _ k_216)) (fun _ h9 => h9) rfl dX0_layColours_11 ?_
  refine lv_icmp_gt (tgt := 34) hx hb dX0_layColours_14 (by decide) (fun c0 => absurd c0 (by decide)) (fun _ => ?_)
  refine lv_aload_n hx hb dX0_layColours_17 rfl (lv_at hl 1 rfl) ?_
  refine lv_iconst (v := 0) hx hb dX0_layColours_18 (by decide) ?_
  refine lv_iload_n hx hb dX0_layColours_19 rfl (lv_at hl 0 rfl) ?_
  refine caVi (n := 2) (wr := []) (rest := []) hx hb hml hown hts hE hP hD hS hA (cnX0_painted_1 l dC dI cy h0 h1 b0 b1 b2 b3 b4 b5 b6) k_1119 k_1121 k_33 k_111 k_1122 (by decide +kernel) ⟨Nat.le_of_ble_eq_true rfl, Nat.le_of_ble_eq_true rfl⟩ [1, 0] [] rfl rfl rfl (by decide) (by decide) (by decide) 0 0 rfl rfl rfl hl.1 rfl (Nat.le_of_ble_eq_true rfl) dX0_layColours_20 ⟨Nat.le_of_ble_eq_true rfl, Nat.le_of_ble_eq_true rfl⟩ (fun rr u H locs hw hP hD hS => ?_)
  have hP : va_P (dC, dI) vwCl [(h0, .inr (0, [.ref h1, .ref b0, .ref b1, .int 0, .ref b2, .ref b3, .int 0, .int 0])), (h1, .inr (7, [.ref b4, .ref b5, .ref b6, .int 0, .int 0, .int 10, .int 150, .int 2, .int 0, .int 0]))] H := hP
  have hD : va_D A [(h0, .inr (0, [.ref h1, .ref b0, .ref b1, .int 0, .ref b2, .ref b3, .int 0, .int 0])), (h1, .inr (7, [.ref b4, .ref b5, .ref b6, .int 0, .int 0, .int 10, .int 150, .int 2, .int 0, .int 0]))] := hD
  refine tI (y := 1) hw ?_
  refine lv_if_eq (tgt := 28) hx hb dX0_layColours_23 (by decide) (fun c0 => absurd c0 (by decide)) (fun _ => ?_)
  refine lv_iload_n hx hb dX0_layColours_26 rfl (lv_at hl 0 rfl) ?_
  exact ret 0 () _ _ _ _ _ _ rfl rfl (hP.sub [0, 1] rfl) (hD.sub [0, 1] (by decide) rfl) hS dX0_layColours_27 (Nat.le_of_ble_eq_true rfl) (Nat.le_of_ble_eq_true rfl)
theorem pt_X10_buttons_395 : (0 : Int32) = F_buttons  := by
  unfold F_buttons
  (repeat' split)
  all_goals first | rfl | assumption | (exfalso; simp only [fa_lt, fa_le, fa_eq, tl_0] at *; omega) | (simp only [fa_lt, fa_le, fa_eq, tl_0] at *; omega)
set_option maxHeartbeats 4000000 in
set_option maxRecDepth 100000 in
theorem cnX10_buttons_1 (l : Launch) (dC : Nat → ClassId) (dI : Nat → Nat → Nat) (cy : Nat → ClassId) (h0 : Nat) (h1 : Nat) (h2 : Nat) (b0 : Nat) (b1 : Nat) (b2 : Nat) (b3 : Nat) (b4 : Nat) (b5 : Nat) (b6 : Nat) (b7 : Nat) (b8 : Nat) (b9 : Nat) (b10 : Nat) (b11 : Nat) (b12 : Nat) : ctI l (dC, dI) cy yX10_buttons cX10_buttons 1 .int 3 104 0 0 Unit [.ref h0] [(h0, .inr (10, [.ref b0, .ref b1, .ref h2, .ref b2, .ref b3, .ref b4, .ref b5, .ref h1, .ref b6, .int 0])), (h1, .inr (0, [.ref h2, .ref b2, .ref b7, .int 0, .ref b8, .ref b9, .int 0, .int 0])), (h2, .inr (7, [.ref b10, .ref b11, .ref b12, .int 0, .int 0, .int 10, .int 150, .int 2, .int 0, .int 0]))] (fun r _ => r = F_buttons ) (fun u => []) := by
  refine ctI_of (by decide) (Nat.le_of_ble_eq_true rfl) (fun p e s m below meth c A ls Q hx hb hml hts hown hE hP hD hA hl ret => ?_)
  have hown : s.vm.findClass RX10 = some m.cls := hown
  have hS : va_S A s.heap s.heap [] := va_S.rf
  have hl : lv_has ls 1 [(0, .ref h0)] := hl
  refine lv_aload_n hx hb dX10_buttons_0 rfl (lv_at hl 0 rfl) ?_
  refine va_get (D := (dC, dI)) (ci := 10) (v := .ref h1) (C := RX10) (T := TX10) (N := 10) hx hb hts inB_10 hown hE.1 hP 0 rfl rfl 7 (by decide) (hts _ k_498) (fun _ h9 => h9) rfl dX10_buttons_1 ?_
  refine caVi (n := 0) (wr := [(h0, .inr (10, [.ref b0, .ref b1, .ref h2, .ref b2, .ref b3, .ref b4, .ref b5, .ref h1, .ref b6, .int 0]))]) (rest := []) hx hb hml hown hts hE hP hD hS hA (cnX0_layColours_1 l dC dI cy h1 h2 b2 b7 b8 b9 b10 b11 b12) k_1115 k_1116 k_1117 k_111 k_1118 (by decide +kernel) ⟨Nat.le_of_ble_eq_true rfl, Nat.le_of_ble_eq_true rfl⟩ [1, 2] [0] rfl rfl rfl (by decide) (by decide) (by decide) 0 0 rfl rfl rfl hl.1 rfl (Nat.le_of_ble_eq_true rfl) dX10_buttons_4 ⟨Nat.le_of_ble_eq_true rfl, Nat.le_of_ble_eq_true rfl⟩ (fun rr u H locs hw hP hD hS => ?_)
  have hP : va_P (dC, dI) vwCl [(h0, .inr (10, [.ref b0, .ref b1, .ref h2, .ref b2, .ref b3, .ref b4, .ref b5, .ref h1, .ref b6, .int 0])), (h1, .inr (0, [.ref h2, .ref b2, .ref b7, .int 0, .ref b8, .ref b9, .int 0, .int 0])), (h2, .inr (7, [.ref b10, .ref b11, .ref b12, .int 0, .int 0, .int 10, .int 150, .int 2, .int 0, .int 0]))] H := hP
  have hD : va_D A [(h0, .inr (10, [.ref b0, .ref b1, .ref h2, .ref b2, .ref b3, .ref b4, .ref b5, .ref h1, .ref b6, .int 0])), (h1, .inr (0, [.ref h2, .ref b2, .ref b7, .int 0, .ref b8, .ref b9, .int 0, .int 0])), (h2, .inr (7, [.ref b10, .ref b11, .ref b12, .int 0, .int 0, .int 10, .int 150, .int 2, .int 0, .int 0]))] := hD
  refine tI (y := 0) hw ?_
  exact ret 0 () _ _ _ _ _ _ rfl (pt_X10_buttons_395 ) (hP.sub [] rfl) (hD.sub [] (by decide) rfl) hS dX10_buttons_7 (Nat.le_of_ble_eq_true rfl) (Nat.le_of_ble_eq_true rfl)
theorem pt_X11_buttons_396 : (0 : Int32) = F_buttons  := by
  unfold F_buttons
  (repeat' split)
  all_goals first | rfl | assumption | (exfalso; simp only [fa_lt, fa_le, fa_eq, tl_0] at *; omega) | (simp only [fa_lt, fa_le, fa_eq, tl_0] at *; omega)
set_option maxHeartbeats 4000000 in
set_option maxRecDepth 100000 in
theorem cnX11_buttons_1 (l : Launch) (dC : Nat → ClassId) (dI : Nat → Nat → Nat) (cy : Nat → ClassId) (h0 : Nat) (r : Nat → Nat) : ctI l (dC, dI) cy yX11_buttons cX11_buttons 4 .int 1 60 0 0 Unit [.ref h0] [(h0, .inr (11, mFs r mv0))] (fun r _ => r = F_buttons ) (fun u => []) := by
  refine ctI_of (by decide) (Nat.le_of_ble_eq_true rfl) (fun p e s m below meth c A ls Q hx hb hml hts hown hE hP hD hA hl ret => ?_)
  have hown : s.vm.findClass RX11 = some m.cls := hown
  have hS : va_S A s.heap s.heap [] := va_S.rf
  have hl : lv_has ls 4 [(0, .ref h0)] := hl
  refine lv_aload_n hx hb dX11_buttons_0 rfl (lv_at hl 0 rfl) ?_
  refine lv_aload_n hx hb dX11_buttons_1 rfl (lv_at hl 0 rfl) ?_
  refine va_get (D := (dC, dI)) (ci := 11) (v := .int 0) (C := RX11) (T := TX11) (N := 79) hx hb hts inB_11 hown hE.1 hP 0 rfl rfl 48 (by decide) (hts _ k_1368) (fun _ h9 => h9) rfl dX11_buttons_2 ?_
  refine va_put (D := (dC, dI)) (ci := 11) (v := .int 0) (ty := tyX11 67) (C := RX11) (T := TX11) (N := 79) hx hb hts inB_11 tyX11 tyX11_ok nmX11 hown hE.1 hP hD hS 0 rfl rfl 67 (by decide) (hts _ k_1387) (fun _ h9 => h9) rfl (tyX11_ok 67 (by decide)) rfl rfl (Nat.le_of_ble_eq_true rfl) dX11_buttons_5 (fun H locs hP hD hS => ?_)
  have hP : va_P (dC, dI) vwCl [(h0, .inr (11, mFs r mv0))] H := hP
  have hD : va_D A [(h0, .inr (11, mFs r mv0))] := hD
  refine lv_iconst (v := 1) hx hb dX11_buttons_8 (by decide) ?_
  refine lv_istore_n (lv' := [(1, .int 1), (0, .ref h0)]) hx hb dX11_buttons_9 rfl hl (by decide) rfl (fun ls hl => ?_)
  refine lv_iload_n hx hb dX11_buttons_10 rfl (lv_at hl 0 rfl) ?_
  refine lv_aload_n hx hb dX11_buttons_11 rfl (lv_at hl 1 rfl) ?_
  refine va_get (D := (dC, dI)) (ci := 11) (v := .int 0) (C := RX11) (T := TX11) (N := 79) hx hb hts inB_11 hown hE.1 hP 0 rfl rfl 48 (by decide) (hts _ k_1368) (fun _ h9 => h9) rfl dX11_buttons_12 ?_
  refine lv_icmp_gt (tgt := 86) hx hb dX11_buttons_15 (by decide) (fun _ => ?_) (fun c0 => absurd (by decide) c0)
  refine lv_iconst (v := 0) hx hb dX11_buttons_86 (by decide) ?_
  exact ret 0 () _ _ _ _ _ _ rfl (pt_X11_buttons_396 ) (hP.sub [] rfl) (hD.sub [] (by decide) rfl) hS dX11_buttons_87 (Nat.le_of_ble_eq_true rfl) (Nat.le_of_ble_eq_true rfl)
theorem pt_X10_reach_397 (p1 : Int32) (p2 : Int32) (c1 : p1 = p2) : ((-1) : Int32) = F_reach p1 p2 := by
  unfold F_reach
  (repeat' split)
  all_goals first | rfl | assumption | (exfalso; simp only [fa_lt, fa_le, fa_eq, tl_m1] at *; omega) | (simp only [fa_lt, fa_le, fa_eq, tl_m1] at *; omega)
theorem pt_X10_reach_398 (p1 : Int32) (p2 : Int32) (c1 : ¬ p1 = p2) : ((-1) : Int32) = F_reach p1 p2 := by
  unfold F_reach
  (repeat' split)
  all_goals first | rfl | assumption | (exfalso; simp only [fa_lt, fa_le, fa_eq, tl_m1] at *; omega) | (simp only [fa_lt, fa_le, fa_eq, tl_m1] at *; omega)
set_option maxHeartbeats 4000000 in
set_option maxRecDepth 100000 in
theorem cnX10_reach_1 (l : Launch) (dC : Nat → ClassId) (dI : Nat → Nat → Nat) (cy : Nat → ClassId) (h0 : Nat) (h1 : Nat) (h2 : Nat) (b0 : Nat) (b1 : Nat) (b2 : Nat) (b3 : Nat) (b4 : Nat) (b5 : Nat) (b6 : Nat) (b7 : Nat) (b8 : Nat) (b9 : Nat) (b10 : Nat) (b11 : Nat) (b12 : Nat) (p1 : Int32) (p2 : Int32) : ctI l (dC, dI) cy yX10_reach cX10_reach 3 .int 2 81 0 0 Unit [.ref h0, .int p1, .int p2] [(h0, .inr (10, [.ref b0, .ref b1, .ref h2, .ref b2, .ref b3, .ref b4, .ref b5, .ref h1, .ref b6, .int 0])), (h1, .inr (0, [.ref h2, .ref b2, .ref b7, .int 0, .ref b8, .ref b9, .int 0, .int 0])), (h2, .inr (7, [.ref b10, .ref b11, .ref b12, .int 0, .int 0, .int 10, .int 150, .int 2, .int 0, .int 0]))] (fun r _ => r = F_reach p1 p2) (fun u => []) := by
  refine ctI_of (by decide) (Nat.le_of_ble_eq_true rfl) (fun p e s m below meth c A ls Q hx hb hml hts hown hE hP hD hA hl ret => ?_)
  have hown : s.vm.findClass RX10 = some m.cls := hown
  have hS : va_S A s.heap s.heap [] := va_S.rf
  have hl : lv_has ls 3 [(0, .ref h0), (1, .int p1), (2, .int p2)] := hl
  refine lv_aload_n hx hb dX10_reach_0 rfl (lv_at hl 0 rfl) ?_
  refine va_get (D := (dC, dI)) (ci := 10) (v := .ref h1) (C := RX10) (T := TX10) (N := 10) hx hb hts inB_10 hown hE.1 hP 0 rfl rfl 7 (by decide) (hts _ k_498) (fun _ h9 => h9) rfl dX10_reach_1 ?_
  refine caVv (n := 0) (wr := [(h0, .inr (10, [.ref b0, .ref b1, .ref h2, .ref b2, .ref b3, .ref b4, .ref b5, .ref h1, .ref b6, .int 0])), (h2, .inr (7, [.ref b10, .ref b11, .ref b12, .int 0, .int 0, .int 10, .int 150, .int 2, .int 0, .int 0]))]) (rest := []) hx hb hml hown hts hE hP hD hS hA (cnX0_clear_1 l dC dI cy h1 h2 b2 b7 b8 b9) k_786 k_787 k_788 k_111 k_789 (by decide +kernel) ⟨Nat.le_of_ble_eq_true rfl, Nat.le_of_ble_eq_true rfl⟩ [1] [0, 2] rfl rfl rfl (by decide) (by decide) (by decide) 0 0 rfl rfl rfl hl.1 rfl (Nat.le_of_ble_eq_true rfl) dX10_reach_4 ⟨Nat.le_of_ble_eq_true rfl, Nat.le_of_ble_eq_true rfl⟩ (fun u H locs hw hP hD hS => ?_)
  have hP : va_P (dC, dI) vwCl [(h0, .inr (10, [.ref b0, .ref b1, .ref h2, .ref b2, .ref b3, .ref b4, .ref b5, .ref h1, .ref b6, .int 0])), (h2, .inr (7, [.ref b10, .ref b11, .ref b12, .int 0, .int 0, .int 10, .int 150, .int 2, .int 0, .int 0])), (h1, .inr (0, [.ref h2, .ref b2, .ref b7, .int 0, .ref b8, .ref b9, .int 0, .int 0]))] H := hP
  have hD : va_D A [(h0, .inr (10, [.ref b0, .ref b1, .ref h2, .ref b2, .ref b3, .ref b4, .ref b5, .ref h1, .ref b6, .int 0])), (h2, .inr (7, [.ref b10, .ref b11, .ref b12, .int 0, .int 0, .int 10, .int 150, .int 2, .int 0, .int 0])), (h1, .inr (0, [.ref h2, .ref b2, .ref b7, .int 0, .ref b8, .ref b9, .int 0, .int 0]))] := hD
  refine lv_iload_n hx hb dX10_reach_7 rfl (lv_at hl 1 rfl) ?_
  refine lv_iload_n hx hb dX10_reach_8 rfl (lv_at hl 2 rfl) ?_
  refine lv_icmp_eq (tgt := 34) hx hb dX10_reach_9 (by decide) (fun c1 => ?_) (fun c1 => ?_)
  · skip
    refine lv_iconst (v := (-1)) hx hb dX10_reach_34 (by decide) ?_
    exact ret (-1) () _ _ _ _ _ _ rfl (pt_X10_reach_397 p1 p2 c1) (hP.sub [] rfl) (hD.sub [] (by decide) rfl) hS dX10_reach_35 (Nat.le_of_ble_eq_true rfl) (Nat.le_of_ble_eq_true rfl)
  · skip
    refine lv_aload_n hx hb dX10_reach_12 rfl (lv_at hl 0 rfl) ?_
    refine va_get (D := (dC, dI)) (ci := 10) (v := .ref h2) (C := RX10) (T := TX10) (N := 10) hx hb hts inB_10 hown hE.1 hP 0 rfl rfl 2 (by decide) (hts _ k_493) (fun _ h9 => h9) rfl dX10_reach_13 ?_
    refine lv_iload_n hx hb dX10_reach_16 rfl (lv_at hl 1 rfl) ?_
    refine caVi (n := 1) (wr := [(h0, .inr (10, [.ref b0, .ref b1, .ref h2, .ref b2, .ref b3, .ref b4, .ref b5, .ref h1, .ref b6, .int 0])), (h1, .inr (0, [.ref h2, .ref b2, .ref b7, .int 0, .ref b8, .ref b9, .int 0, .int 0]))]) (rest := []) hx hb hml hown hts hE hP hD hS hA (cnX7_hasMan_1 l dC dI cy h2 b10 b11 b12 p1) k_802 k_307 k_308 k_104 k_309 (by decide +kernel) ⟨Nat.le_of_ble_eq_true rfl, Nat.le_of_ble_eq_true rfl⟩ [1] [0, 2] rfl rfl rfl (by decide) (by decide) (by decide) 0 7 rfl rfl rfl hl.1 rfl (Nat.le_of_ble_eq_true rfl) dX10_reach_17 ⟨Nat.le_of_ble_eq_true rfl, Nat.le_of_ble_eq_true rfl⟩ (fun rr u H locs hw hP hD hS => ?_)
    have hP : va_P (dC, dI) vwCl [(h0, .inr (10, [.ref b0, .ref b1, .ref h2, .ref b2, .ref b3, .ref b4, .ref b5, .ref h1, .ref b6, .int 0])), (h1, .inr (0, [.ref h2, .ref b2, .ref b7, .int 0, .ref b8, .ref b9, .int 0, .int 0])), (h2, .inr (7, [.ref b10, .ref b11, .ref b12, .int 0, .int 0, .int 10, .int 150, .int 2, .int 0, .int 0]))] H := hP
    have hD : va_D A [(h0, .inr (10, [.ref b0, .ref b1, .ref h2, .ref b2, .ref b3, .ref b4, .ref b5, .ref h1, .ref b6, .int 0])), (h1, .inr (0, [.ref h2, .ref b2, .ref b7, .int 0, .ref b8, .ref b9, .int 0, .int 0])), (h2, .inr (7, [.ref b10, .ref b11, .ref b12, .int 0, .int 0, .int 10, .int 150, .int 2, .int 0, .int 0]))] := hD
    refine tI (y := 0) hw ?_
    refine lv_if_eq (tgt := 34) hx hb dX10_reach_20 (by decide) (fun _ => ?_) (fun c0 => absurd (by decide) c0)
    refine lv_iconst (v := (-1)) hx hb dX10_reach_34 (by decide) ?_
    exact ret (-1) () _ _ _ _ _ _ rfl (pt_X10_reach_398 p1 p2 c1) (hP.sub [] rfl) (hD.sub [] (by decide) rfl) hS dX10_reach_35 (Nat.le_of_ble_eq_true rfl) (Nat.le_of_ble_eq_true rfl)
set_option maxHeartbeats 4000000 in
set_option maxRecDepth 100000 in
theorem cnX11_freeCoats_1 (l : Launch) (dC : Nat → ClassId) (dI : Nat → Nat → Nat) (cy : Nat → ClassId) (h0 : Nat) (r : Nat → Nat) : ctI l (dC, dI) cy yX11_freeCoats cX11_freeCoats 3 .int 1 60 0 0 Unit [.ref h0] [(h0, .inr (11, mFs r mv0))] (fun r _ => r = 0) (fun u => [(h0, .inr (11, mFs r mv0))]) := by
  refine ctI_of (by decide) (Nat.le_of_ble_eq_true rfl) (fun p e s m below meth c A ls Q hx hb hml hts hown hE hP hD hA hl ret => ?_)
  have hown : s.vm.findClass RX11 = some m.cls := hown
  have hS : va_S A s.heap s.heap [] := va_S.rf
  have hl : lv_has ls 3 [(0, .ref h0)] := hl
  refine lv_iconst (v := 0) hx hb dX11_freeCoats_0 (by decide) ?_
  refine lv_istore_n (lv' := [(1, .int 0), (0, .ref h0)]) hx hb dX11_freeCoats_1 rfl hl (by decide) rfl (fun ls hl => ?_)
  refine lv_iconst (v := 0) hx hb dX11_freeCoats_2 (by decide) ?_
  refine lv_istore_n (lv' := [(2, .int 0), (1, .int 0), (0, .ref h0)]) hx hb dX11_freeCoats_3 rfl hl (by decide) rfl (fun ls hl => ?_)
  refine lv_iload_n hx hb dX11_freeCoats_4 rfl (lv_at hl 0 rfl) ?_
  refine lv_aload_n hx hb dX11_freeCoats_5 rfl (lv_at hl 2 rfl) ?_
  refine va_get (D := (dC, dI)) (ci := 11) (v := .int 0) (C := RX11) (T := TX11) (N := 79) hx hb hts inB_11 hown hE.1 hP 0 rfl rfl 49 (by decide) (hts _ k_1369) (fun _ h9 => h9) rfl dX11_freeCoats_6 ?_
  refine lv_icmp_ge (tgt := 39) hx hb dX11_freeCoats_9 (by decide) (fun _ => ?_) (fun c0 => absurd (by decide) c0)
  refine lv_iload_n hx hb dX11_freeCoats_39 rfl (lv_at hl 1 rfl) ?_
  exact ret 0 () _ _ _ _ _ _ rfl rfl (hP.sub [0] rfl) (hD.sub [0] (by decide) rfl) hS dX11_freeCoats_40 (Nat.le_of_ble_eq_true rfl) (Nat.le_of_ble_eq_true rfl)
theorem pt_X11_reach_405 (p1 : Int32) (p2 : Int32) : ((-1) : Int32) = F_reach p1 p2 := by
  unfold F_reach
  (repeat' split)
  all_goals first | rfl | assumption | (exfalso; simp only [fa_lt, fa_le, fa_eq, tl_m1] at *; omega) | (simp only [fa_lt, fa_le, fa_eq, tl_m1] at *; omega)
set_option maxHeartbeats 4000000 in
set_option maxRecDepth 100000 in
theorem cnX11_reach_1 (l : Launch) (dC : Nat → ClassId) (dI : Nat → Nat → Nat) (cy : Nat → ClassId) (h0 : Nat) (r : Nat → Nat) (p1 : Int32) (p2 : Int32) : ctI l (dC, dI) cy yX11_reach cX11_reach 7 .int 3 103 0 0 Unit [.ref h0, .int p1, .int p2] [(h0, .inr (11, mFs r mv0)), ((r 59), .inl (cy 1, 39, .inl zF)), ((r 60), .inl (cy 1, 39, .inl zF))] (fun r _ => r = F_reach p1 p2) (fun u => []) := by
  refine ctI_of (by decide) (Nat.le_of_ble_eq_true rfl) (fun p e s m below meth c A ls Q hx hb hml hts hown hE hP hD hA hl ret => ?_)
  have hown : s.vm.findClass RX11 = some m.cls := hown
  have hS : va_S A s.heap s.heap [] := va_S.rf
  have hl : lv_has ls 7 [(0, .ref h0), (1, .int p1), (2, .int p2)] := hl
  refine lv_aload_n hx hb dX11_reach_0 rfl (lv_at hl 0 rfl) ?_
  refine lv_iconst (v := 0) hx hb dX11_reach_1 (by decide) ?_
  refine va_put (D := (dC, dI)) (ci := 11) (v := .int 0) (ty := tyX11 67) (C := RX11) (T := TX11) (N := 79) hx hb hts inB_11 tyX11 tyX11_ok nmX11 hown hE.1 hP hD hS 0 rfl rfl 67 (by decide) (hts _ k_1387) (fun _ h9 => h9) rfl (tyX11_ok 67 (by decide)) rfl rfl (Nat.le_of_ble_eq_true rfl) dX11_reach_2 (fun H locs hP hD hS => ?_)
  have hP : va_P (dC, dI) vwCl [(h0, .inr (11, mFs r mv0)), ((r 59), .inl (cy 1, 39, .inl zF)), ((r 60), .inl (cy 1, 39, .inl zF))] H := hP
  have hD : va_D A [(h0, .inr (11, mFs r mv0)), ((r 59), .inl (cy 1, 39, .inl zF)), ((r 60), .inl (cy 1, 39, .inl zF))] := hD
  refine lv_aload_n hx hb dX11_reach_5 rfl (lv_at hl 0 rfl) ?_
  refine caVv (n := 0) (wr := []) (rest := []) hx hb hml hown hts hE hP hD hS hA (cnX11_layIlls_1 l dC dI cy h0 r) k_1873 k_1875 k_84 k_114 k_1876 (by decide +kernel) ⟨Nat.le_of_ble_eq_true rfl, Nat.le_of_ble_eq_true rfl⟩ [0, 1, 2] [] rfl rfl rfl (by decide) (by decide) (by decide) 0 11 rfl rfl rfl hl.1 rfl (Nat.le_of_ble_eq_true rfl) dX11_reach_6 ⟨Nat.le_of_ble_eq_true rfl, Nat.le_of_ble_eq_true rfl⟩ (fun u H locs hw hP hD hS => ?_)
  have hP : va_P (dC, dI) vwCl [(h0, .inr (11, mFs r mv0)), ((r 59), .inl (cy 1, 39, .inl zF)), ((r 60), .inl (cy 1, 39, .inl zF))] H := hP
  have hD : va_D A [(h0, .inr (11, mFs r mv0)), ((r 59), .inl (cy 1, 39, .inl zF)), ((r 60), .inl (cy 1, 39, .inl zF))] := hD
  refine lv_aload_n hx hb dX11_reach_9 rfl (lv_at hl 0 rfl) ?_
  refine caVi (n := 0) (wr := [((r 59), .inl (cy 1, 39, .inl zF)), ((r 60), .inl (cy 1, 39, .inl zF))]) (rest := []) hx hb hml hown hts hE hP hD hS hA (cnX11_freeCoats_1 l dC dI cy h0 r) k_1948 k_1950 k_92 k_114 k_1951 (by decide +kernel) ⟨Nat.le_of_ble_eq_true rfl, Nat.le_of_ble_eq_true rfl⟩ [0] [1, 2] rfl rfl rfl (by decide) (by decide) (by decide) 0 11 rfl rfl rfl hl.1 rfl (Nat.le_of_ble_eq_true rfl) dX11_reach_10 ⟨Nat.le_of_ble_eq_true rfl, Nat.le_of_ble_eq_true rfl⟩ (fun rr u H locs hw hP hD hS => ?_)
  have hP : va_P (dC, dI) vwCl [((r 59), .inl (cy 1, 39, .inl zF)), ((r 60), .inl (cy 1, 39, .inl zF)), (h0, .inr (11, mFs r mv0))] H := hP
  have hD : va_D A [((r 59), .inl (cy 1, 39, .inl zF)), ((r 60), .inl (cy 1, 39, .inl zF)), (h0, .inr (11, mFs r mv0))] := hD
  refine tI (y := 0) hw ?_
  refine lv_istore_n (lv' := [(3, .int 0), (0, .ref h0), (1, .int p1), (2, .int p2)]) hx hb dX11_reach_13 rfl hl (by decide) rfl (fun ls hl => ?_)
  refine lv_aload_n hx hb dX11_reach_14 rfl (lv_at hl 1 rfl) ?_
  refine lv_iload_n hx hb dX11_reach_15 rfl (lv_at hl 2 rfl) ?_
  refine caVi (n := 1) (wr := [((r 59), .inl (cy 1, 39, .inl zF)), ((r 60), .inl (cy 1, 39, .inl zF))]) (rest := []) hx hb hml hown hts hE hP hD hS hA (cnX11_isMan_1 l dC dI cy h0 r p1) k_1732 k_1734 k_70 k_114 k_1735 (by decide +kernel) ⟨Nat.le_of_ble_eq_true rfl, Nat.le_of_ble_eq_true rfl⟩ [2] [0, 1] rfl rfl rfl (by decide) (by decide) (by decide) 0 11 rfl rfl rfl hl.1 rfl (Nat.le_of_ble_eq_true rfl) dX11_reach_16 ⟨Nat.le_of_ble_eq_true rfl, Nat.le_of_ble_eq_true rfl⟩ (fun rr u H locs hw hP hD hS => ?_)
  have hP : va_P (dC, dI) vwCl [((r 59), .inl (cy 1, 39, .inl zF)), ((r 60), .inl (cy 1, 39, .inl zF)), (h0, .inr (11, mFs r mv0))] H := hP
  have hD : va_D A [((r 59), .inl (cy 1, 39, .inl zF)), ((r 60), .inl (cy 1, 39, .inl zF)), (h0, .inr (11, mFs r mv0))] := hD
  refine tI (y := 0) hw ?_
  refine lv_if_eq (tgt := 39) hx hb dX11_reach_19 (by decide) (fun _ => ?_) (fun c0 => absurd (by decide) c0)
  refine lv_iconst (v := (-1)) hx hb dX11_reach_39 (by decide) ?_
  exact ret (-1) () _ _ _ _ _ _ rfl (pt_X11_reach_405 p1 p2) (hP.sub [] rfl) (hD.sub [] (by decide) rfl) hS dX11_reach_40 (Nat.le_of_ble_eq_true rfl) (Nat.le_of_ble_eq_true rfl)
set_option maxHeartbeats 4000000 in
set_option maxRecDepth 100000 in
theorem cnX3_bestTurning_1 (l : Launch) (dC : Nat → ClassId) (dI : Nat → Nat → Nat) (cy : Nat → ClassId) (h0 : Nat) (h1 : Nat) (b0 : Nat) (b1 : Nat) (b2 : Nat) (b3 : Nat) (b4 : Nat) : ctI l (dC, dI) cy yX3_bestTurning cX3_bestTurning 5 .int 1 60 0 0 Unit [.ref h0] [(h0, .inr (3, [.ref h1, .ref b0, .ref b1, .int 0, .int 0, .int 0, .int 0, .int 0, .int 0, .int 0])), (h1, .inr (7, [.ref b2, .ref b3, .ref b4, .int 0, .int 0, .int 10, .int 150, .int 2, .int 0, .int 0]))] (fun r _ => r = (-1)) (fun u => [(h0, .inr (3, [.ref h1, .ref b0, .ref b1, .int 0, .int 0, .int 0, .int 0, .int 0, .int 0, .int 0])), (h1, .inr (7, [.ref b2, .ref b3, .ref b4, .int 0, .int 0, .int 10, .int 150, .int 2, .int 0, .int 0]))]) := by
  refine ctI_of (by decide) (Nat.le_of_ble_eq_true rfl) (fun p e s m below meth c A ls Q hx hb hml hts hown hE hP hD hA hl ret => ?_)
  have hown : s.vm.findClass RX3 = some m.cls := hown
  have hS : va_S A s.heap s.heap [] := va_S.rf
  have hl : lv_has ls 5 [(0, .ref h0)] := hl
  refine lv_iconst (v := (-1)) hx hb dX3_bestTurning_0 (by decide) ?_
  refine lv_istore_n (lv' := [(1, .int (-1)), (0, .ref h0)]) hx hb dX3_bestTurning_1 rfl hl (by decide) rfl (fun ls hl => ?_)
  refine lv_iconst (v := (-1)) hx hb dX3_bestTurning_2 (by decide) ?_
  refine lv_istore_n (lv' := [(2, .int (-1)), (1, .int (-1)), (0, .ref h0)]) hx hb dX3_bestTurning_3 rfl hl (by decide) rfl (fun ls hl => ?_)
  refine lv_iconst (v := 0) hx hb dX3_bestTurning_4 (by decide) ?_
  refine lv_istore_n (lv' := [(3, .int 0), (2, .int (-1)), (1, .int (-1)), (0, .ref h0)]) hx hb dX3_bestTurning_5 rfl hl (by decide) rfl (fun ls hl => ?_)
  refine lv_iload_n hx hb dX3_bestTurning_6 rfl (lv_at hl 0 rfl) ?_
  refine lv_aload_n hx hb dX3_bestTurning_7 rfl (lv_at hl 3 rfl) ?_
  refine va_get (D := (dC, dI)) (ci := 3) (v := .ref h1) (C := RX3) (T := TX3) (N := 10) hx hb hts inB_3 hown hE.1 hP 0 rfl rfl 0 (by decide) (hts _ k_370) (fun _ h9 => h9) rfl dX3_bestTurning_8 ?_
  refine va_getN (D := (dC, dI)) (ci := 7) (v := .int 0) (C := RX7) (T := TX7) (N := 10) hx hb hts inB_7 hown hE.1 hP 1 rfl rfl 4 (by decide) (va_Nw.use rfl (hE.2 _ k_225)) (fun _ h9 => h9) rfl dX3_bestTurning_11 ?_
  refine lv_icmp_ge (tgt := 79) hx hb dX3_bestTurning_14 (by decide) (fun _ => ?_) (fun c0 => absurd (by decide) c0)
  refine lv_iload_n hx hb dX3_bestTurning_79 rfl (lv_at hl 2 rfl) ?_
  exact ret (-1) () _ _ _ _ _ _ rfl rfl (hP.sub [0, 1] rfl) (hD.sub [0, 1] (by decide) rfl) hS dX3_bestTurning_80 (Nat.le_of_ble_eq_true rfl) (Nat.le_of_ble_eq_true rfl)
theorem pt_X10_turning_406 : ((-1) : Int32) = F_turning  := by
  unfold F_turning
  (repeat' split)
  all_goals first | rfl | assumption | (exfalso; simp only [fa_lt, fa_le, fa_eq, tl_m1] at *; omega) | (simp only [fa_lt, fa_le, fa_eq, tl_m1] at *; omega)
set_option maxHeartbeats 4000000 in
set_option maxRecDepth 100000 in
theorem cnX10_turning_1 (l : Launch) (dC : Nat → ClassId) (dI : Nat → Nat → Nat) (cy : Nat → ClassId) (h0 : Nat) (h1 : Nat) (h2 : Nat) (b0 : Nat) (b1 : Nat) (b2 : Nat) (b3 : Nat) (b4 : Nat) (b5 : Nat) (b6 : Nat) (b7 : Nat) (b8 : Nat) (b9 : Nat) (b10 : Nat) : ctI l (dC, dI) cy yX10_turning cX10_turning 1 .int 2 84 0 0 Unit [.ref h0] [(h0, .inr (10, [.ref b0, .ref b1, .ref h2, .ref b2, .ref b3, .ref h1, .ref b4, .ref b5, .ref b6, .int 0])), (h1, .inr (3, [.ref h2, .ref b2, .ref b7, .int 0, .int 0, .int 0, .int 0, .int 0, .int 0, .int 0])), (h2, .inr (7, [.ref b8, .ref b9, .ref b10, .int 0, .int 0, .int 10, .int 150, .int 2, .int 0, .int 0]))] (fun r _ => r = F_turning ) (fun u => []) := by
  refine ctI_of (by decide) (Nat.le_of_ble_eq_true rfl) (fun p e s m below meth c A ls Q hx hb hml hts hown hE hP hD hA hl ret => ?_)
  have hown : s.vm.findClass RX10 = some m.cls := hown
  have hS : va_S A s.heap s.heap [] := va_S.rf
  have hl : lv_has ls 1 [(0, .ref h0)] := hl
  refine lv_aload_n hx hb dX10_turning_0 rfl (lv_at hl 0 rfl) ?_
  refine va_get (D := (dC, dI)) (ci := 10) (v := .ref h1) (C := RX10) (T := TX10) (N := 10) hx hb hts inB_10 hown hE.1 hP 0 rfl rfl 5 (by decide) (hts _ k_496) (fun _ h9 => h9) rfl dX10_turning_1 ?_
  refine caVi (n := 0) (wr := [(h0, .inr (10, [.ref b0, .ref b1, .ref h2, .ref b2, .ref b3, .ref h1, .ref b4, .ref b5, .ref b6, .int 0]))]) (rest := []) hx hb hml hown hts hE hP hD hS hA (cnX3_bestTurning_1 l dC dI cy h1 h2 b2 b7 b8 b9 b10) k_1154 k_1155 k_1156 k_109 k_1157 (by decide +kernel) ⟨Nat.le_of_ble_eq_true rfl, Nat.le_of_ble_eq_true rfl⟩ [1, 2] [0] rfl rfl rfl (by decide) (by decide) (by decide) 0 3 rfl rfl rfl hl.1 rfl (Nat.le_of_ble_eq_true rfl) dX10_turning_4 ⟨Nat.le_of_ble_eq_true rfl, Nat.le_of_ble_eq_true rfl⟩ (fun rr u H locs hw hP hD hS => ?_)
  have hP : va_P (dC, dI) vwCl [(h0, .inr (10, [.ref b0, .ref b1, .ref h2, .ref b2, .ref b3, .ref h1, .ref b4, .ref b5, .ref b6, .int 0])), (h1, .inr (3, [.ref h2, .ref b2, .ref b7, .int 0, .int 0, .int 0, .int 0, .int 0, .int 0, .int 0])), (h2, .inr (7, [.ref b8, .ref b9, .ref b10, .int 0, .int 0, .int 10, .int 150, .int 2, .int 0, .int 0]))] H := hP
  have hD : va_D A [(h0, .inr (10, [.ref b0, .ref b1, .ref h2, .ref b2, .ref b3, .ref h1, .ref b4, .ref b5, .ref b6, .int 0])), (h1, .inr (3, [.ref h2, .ref b2, .ref b7, .int 0, .int 0, .int 0, .int 0, .int 0, .int 0, .int 0])), (h2, .inr (7, [.ref b8, .ref b9, .ref b10, .int 0, .int 0, .int 10, .int 150, .int 2, .int 0, .int 0]))] := hD
  refine tI (y := (-1)) hw ?_
  exact ret (-1) () _ _ _ _ _ _ rfl (pt_X10_turning_406 ) (hP.sub [] rfl) (hD.sub [] (by decide) rfl) hS dX10_turning_7 (Nat.le_of_ble_eq_true rfl) (Nat.le_of_ble_eq_true rfl)
theorem pt_X11_turning_407 : ((-1) : Int32) = F_turning  := by
  unfold F_turning
  (repeat' split)
  all_goals first | rfl | assumption | (exfalso; simp only [fa_lt, fa_le, fa_eq, tl_m1] at *; omega) | (simp only [fa_lt, fa_le, fa_eq, tl_m1] at *; omega)
set_option maxHeartbeats 4000000 in
set_option maxRecDepth 100000 in
theorem cnX11_turning_1 (l : Launch) (dC : Nat → ClassId) (dI : Nat → Nat → Nat) (cy : Nat → ClassId) (h0 : Nat) (r : Nat → Nat) : ctI l (dC, dI) cy yX11_turning cX11_turning 5 .int 1 60 0 0 Unit [.ref h0] [(h0, .inr (11, mFs r mv0))] (fun r _ => r = F_turning ) (fun u => []) := by
  refine ctI_of (by decide) (Nat.le_of_ble_eq_true rfl) (fun p e s m below meth c A ls Q hx hb hml hts hown hE hP hD hA hl ret => ?_)
  have hown : s.vm.findClass RX11 = some m.cls := hown
  have hS : va_S A s.heap s.heap [] := va_S.rf
  have hl : lv_has ls 5 [(0, .ref h0)] := hl
  refine lv_iconst (v := (-1)) hx hb dX11_turning_0 (by decide) ?_
  refine lv_istore_n (lv' := [(1, .int (-1)), (0, .ref h0)]) hx hb dX11_turning_1 rfl hl (by decide) rfl (fun ls hl => ?_)
  refine lv_iconst (v := (-1)) hx hb dX11_turning_2 (by decide) ?_
  refine lv_istore_n (lv' := [(2, .int (-1)), (1, .int (-1)), (0, .ref h0)]) hx hb dX11_turning_3 rfl hl (by decide) rfl (fun ls hl => ?_)
  refine lv_iconst (v := 0) hx hb dX11_turning_4 (by decide) ?_
  refine lv_istore_n (lv' := [(3, .int 0), (2, .int (-1)), (1, .int (-1)), (0, .ref h0)]) hx hb dX11_turning_5 rfl hl (by decide) rfl (fun ls hl => ?_)
  refine lv_iload_n hx hb dX11_turning_6 rfl (lv_at hl 0 rfl) ?_
  refine lv_aload_n hx hb dX11_turning_7 rfl (lv_at hl 3 rfl) ?_
  refine va_get (D := (dC, dI)) (ci := 11) (v := .int 0) (C := RX11) (T := TX11) (N := 79) hx hb hts inB_11 hown hE.1 hP 0 rfl rfl 49 (by decide) (hts _ k_1369) (fun _ h9 => h9) rfl dX11_turning_8 ?_
  refine lv_icmp_ge (tgt := 75) hx hb dX11_turning_11 (by decide) (fun _ => ?_) (fun c0 => absurd (by decide) c0)
  refine lv_iload_n hx hb dX11_turning_75 rfl (lv_at hl 2 rfl) ?_
  exact ret (-1) () _ _ _ _ _ _ rfl (pt_X11_turning_407 ) (hP.sub [] rfl) (hD.sub [] (by decide) rfl) hS dX11_turning_76 (Nat.le_of_ble_eq_true rfl) (Nat.le_of_ble_eq_true rfl)
theorem pt_X10_rags_408 : (0 : Int32) = F_rags  := by
  unfold F_rags
  (repeat' split)
  all_goals first | rfl | assumption | (exfalso; simp only [fa_lt, fa_le, fa_eq, tl_0] at *; omega) | (simp only [fa_lt, fa_le, fa_eq, tl_0] at *; omega)
set_option maxHeartbeats 4000000 in
set_option maxRecDepth 100000 in
theorem cnX10_rags_1 (l : Launch) (dC : Nat → ClassId) (dI : Nat → Nat → Nat) (cy : Nat → ClassId) (h0 : Nat) (h1 : Nat) (b0 : Nat) (b1 : Nat) (b2 : Nat) (b3 : Nat) (b4 : Nat) (b5 : Nat) (b6 : Nat) (b7 : Nat) (b8 : Nat) (b9 : Nat) (b10 : Nat) : ctI l (dC, dI) cy yX10_rags cX10_rags 3 .int 1 60 0 0 Unit [.ref h0] [(h0, .inr (10, [.ref b0, .ref b1, .ref h1, .ref b2, .ref b3, .ref b4, .ref b5, .ref b6, .ref b7, .int 0])), (h1, .inr (7, [.ref b8, .ref b9, .ref b10, .int 0, .int 0, .int 10, .int 150, .int 2, .int 0, .int 0]))] (fun r _ => r = F_rags ) (fun u => []) := by
  refine ctI_of (by decide) (Nat.le_of_ble_eq_true rfl) (fun p e s m below meth c A ls Q hx hb hml hts hown hE hP hD hA hl ret => ?_)
  have hown : s.vm.findClass RX10 = some m.cls := hown
  have hS : va_S A s.heap s.heap [] := va_S.rf
  have hl : lv_has ls 3 [(0, .ref h0)] := hl
  refine lv_iconst (v := 0) hx hb dX10_rags_0 (by decide) ?_
  refine lv_istore_n (lv' := [(1, .int 0), (0, .ref h0)]) hx hb dX10_rags_1 rfl hl (by decide) rfl (fun ls hl => ?_)
  refine lv_iconst (v := 0) hx hb dX10_rags_2 (by decide) ?_
  refine lv_istore_n (lv' := [(2, .int 0), (1, .int 0), (0, .ref h0)]) hx hb dX10_rags_3 rfl hl (by decide) rfl (fun ls hl => ?_)
  refine lv_iload_n hx hb dX10_rags_4 rfl (lv_at hl 0 rfl) ?_
  refine lv_aload_n hx hb dX10_rags_5 rfl (lv_at hl 2 rfl) ?_
  refine va_get (D := (dC, dI)) (ci := 10) (v := .ref h1) (C := RX10) (T := TX10) (N := 10) hx hb hts inB_10 hown hE.1 hP 0 rfl rfl 2 (by decide) (hts _ k_493) (fun _ h9 => h9) rfl dX10_rags_6 ?_
  refine va_getN (D := (dC, dI)) (ci := 7) (v := .int 0) (C := RX7) (T := TX7) (N := 10) hx hb hts inB_7 hown hE.1 hP 1 rfl rfl 4 (by decide) (va_Nw.use rfl (hE.2 _ k_227)) (fun _ h9 => h9) rfl dX10_rags_9 ?_
  refine lv_icmp_ge (tgt := 38) hx hb dX10_rags_12 (by decide) (fun _ => ?_) (fun c0 => absurd (by decide) c0)
  refine lv_iload_n hx hb dX10_rags_38 rfl (lv_at hl 1 rfl) ?_
  exact ret 0 () _ _ _ _ _ _ rfl (pt_X10_rags_408 ) (hP.sub [] rfl) (hD.sub [] (by decide) rfl) hS dX10_rags_39 (Nat.le_of_ble_eq_true rfl) (Nat.le_of_ble_eq_true rfl)
theorem pt_X11_rags_415 : (0 : Int32) = F_rags  := by
  unfold F_rags
  (repeat' split)
  all_goals first | rfl | assumption | (exfalso; simp only [fa_lt, fa_le, fa_eq, tl_0] at *; omega) | (simp only [fa_lt, fa_le, fa_eq, tl_0] at *; omega)
set_option maxHeartbeats 4000000 in
set_option maxRecDepth 100000 in
theorem cnX11_rags_1 (l : Launch) (dC : Nat → ClassId) (dI : Nat → Nat → Nat) (cy : Nat → ClassId) (h0 : Nat) (r : Nat → Nat) : ctI l (dC, dI) cy yX11_rags cX11_rags 3 .int 2 81 0 0 Unit [.ref h0] [(h0, .inr (11, mFs r mv0)), ((r 59), .inl (cy 1, 39, .inl zF)), ((r 60), .inl (cy 1, 39, .inl zF))] (fun r _ => r = F_rags ) (fun u => []) := by
  refine ctI_of (by decide) (Nat.le_of_ble_eq_true rfl) (fun p e s m below meth c A ls Q hx hb hml hts hown hE hP hD hA hl ret => ?_)
  have hown : s.vm.findClass RX11 = some m.cls := hown
  have hS : va_S A s.heap s.heap [] := va_S.rf
  have hl : lv_has ls 3 [(0, .ref h0)] := hl
  refine lv_aload_n hx hb dX11_rags_0 rfl (lv_at hl 0 rfl) ?_
  refine caVv (n := 0) (wr := []) (rest := []) hx hb hml hown hts hE hP hD hS hA (cnX11_fill_1 l dC dI cy h0 r) k_1739 k_1741 k_71 k_114 k_1742 (by decide +kernel) ⟨Nat.le_of_ble_eq_true rfl, Nat.le_of_ble_eq_true rfl⟩ [0, 1, 2] [] rfl rfl rfl (by decide) (by decide) (by decide) 0 11 rfl rfl rfl hl.1 rfl (Nat.le_of_ble_eq_true rfl) dX11_rags_1 ⟨Nat.le_of_ble_eq_true rfl, Nat.le_of_ble_eq_true rfl⟩ (fun u H locs hw hP hD hS => ?_)
  have hP : va_P (dC, dI) vwCl [(h0, .inr (11, mFs r mv0)), ((r 59), .inl (cy 1, 39, .inl zF)), ((r 60), .inl (cy 1, 39, .inl zF))] H := hP
  have hD : va_D A [(h0, .inr (11, mFs r mv0)), ((r 59), .inl (cy 1, 39, .inl zF)), ((r 60), .inl (cy 1, 39, .inl zF))] := hD
  refine lv_iconst (v := 0) hx hb dX11_rags_4 (by decide) ?_
  refine lv_istore_n (lv' := [(1, .int 0), (0, .ref h0)]) hx hb dX11_rags_5 rfl hl (by decide) rfl (fun ls hl => ?_)
  refine lv_iconst (v := 0) hx hb dX11_rags_6 (by decide) ?_
  refine lv_istore_n (lv' := [(2, .int 0), (1, .int 0), (0, .ref h0)]) hx hb dX11_rags_7 rfl hl (by decide) rfl (fun ls hl => ?_)
  refine lv_iload_n hx hb dX11_rags_8 rfl (lv_at hl 0 rfl) ?_
  refine lv_aload_n hx hb dX11_rags_9 rfl (lv_at hl 2 rfl) ?_
  refine va_get (D := (dC, dI)) (ci := 11) (v := .int 0) (C := RX11) (T := TX11) (N := 79) hx hb hts inB_11 hown hE.1 hP 0 rfl rfl 49 (by decide) (hts _ k_1369) (fun _ h9 => h9) rfl dX11_rags_10 ?_
  refine lv_icmp_ge (tgt := 43) hx hb dX11_rags_13 (by decide) (fun _ => ?_) (fun c0 => absurd (by decide) c0)
  refine lv_iload_n hx hb dX11_rags_43 rfl (lv_at hl 1 rfl) ?_
  exact ret 0 () _ _ _ _ _ _ rfl (pt_X11_rags_415 ) (hP.sub [] rfl) (hD.sub [] (by decide) rfl) hS dX11_rags_44 (Nat.le_of_ble_eq_true rfl) (Nat.le_of_ble_eq_true rfl)
theorem pt_X10_naked_416 : (0 : Int32) = F_naked  := by
  unfold F_naked
  (repeat' split)
  all_goals first | rfl | assumption | (exfalso; simp only [fa_lt, fa_le, fa_eq, tl_0] at *; omega) | (simp only [fa_lt, fa_le, fa_eq, tl_0] at *; omega)
set_option maxHeartbeats 4000000 in
set_option maxRecDepth 100000 in
theorem cnX10_naked_1 (l : Launch) (dC : Nat → ClassId) (dI : Nat → Nat → Nat) (cy : Nat → ClassId) (h0 : Nat) (h1 : Nat) (b0 : Nat) (b1 : Nat) (b2 : Nat) (b3 : Nat) (b4 : Nat) (b5 : Nat) (b6 : Nat) (b7 : Nat) (b8 : Nat) (b9 : Nat) (b10 : Nat) : ctI l (dC, dI) cy yX10_naked cX10_naked 3 .int 1 60 0 0 Unit [.ref h0] [(h0, .inr (10, [.ref b0, .ref b1, .ref h1, .ref b2, .ref b3, .ref b4, .ref b5, .ref b6, .ref b7, .int 0])), (h1, .inr (7, [.ref b8, .ref b9, .ref b10, .int 0, .int 0, .int 10, .int 150, .int 2, .int 0, .int 0]))] (fun r _ => r = F_naked ) (fun u => []) := by
  refine ctI_of (by decide) (Nat.le_of_ble_eq_true rfl) (fun p e s m below meth c A ls Q hx hb hml hts hown hE hP hD hA hl ret => ?_)
  have hown : s.vm.findClass RX10 = some m.cls := hown
  have hS : va_S A s.heap s.heap [] := va_S.rf
  have hl : lv_has ls 3 [(0, .ref h0)] := hl
  refine lv_iconst (v := 0) hx hb dX10_naked_0 (by decide) ?_
  refine lv_istore_n (lv' := [(1, .int 0), (0, .ref h0)]) hx hb dX10_naked_1 rfl hl (by decide) rfl (fun ls hl => ?_)
  refine lv_iconst (v := 0) hx hb dX10_naked_2 (by decide) ?_
  refine lv_istore_n (lv' := [(2, .int 0), (1, .int 0), (0, .ref h0)]) hx hb dX10_naked_3 rfl hl (by decide) rfl (fun ls hl => ?_)
  refine lv_iload_n hx hb dX10_naked_4 rfl (lv_at hl 0 rfl) ?_
  refine lv_aload_n hx hb dX10_naked_5 rfl (lv_at hl 2 rfl) ?_
  refine va_get (D := (dC, dI)) (ci := 10) (v := .ref h1) (C := RX10) (T := TX10) (N := 10) hx hb hts inB_10 hown hE.1 hP 0 rfl rfl 2 (by decide) (hts _ k_493) (fun _ h9 => h9) rfl dX10_naked_6 ?_
  refine va_getN (D := (dC, dI)) (ci := 7) (v := .int 0) (C := RX7) (T := TX7) (N := 10) hx hb hts inB_7 hown hE.1 hP 1 rfl rfl 3 (by decide) (va_Nw.use rfl (hE.2 _ k_214)) (fun _ h9 => h9) rfl dX10_naked_9 ?_
  refine lv_icmp_ge (tgt := 38) hx hb dX10_naked_12 (by decide) (fun _ => ?_) (fun c0 => absurd (by decide) c0)
  refine lv_iload_n hx hb dX10_naked_38 rfl (lv_at hl 1 rfl) ?_
  exact ret 0 () _ _ _ _ _ _ rfl (pt_X10_naked_416 ) (hP.sub [] rfl) (hD.sub [] (by decide) rfl) hS dX10_naked_39 (Nat.le_of_ble_eq_true rfl) (Nat.le_of_ble_eq_true rfl)
theorem pt_X11_naked_423 : (0 : Int32) = F_naked  := by
  unfold F_naked
  (repeat' split)
  all_goals first | rfl | assumption | (exfalso; simp only [fa_lt, fa_le, fa_eq, tl_0] at *; omega) | (simp only [fa_lt, fa_le, fa_eq, tl_0] at *; omega)
set_option maxHeartbeats 4000000 in
set_option maxRecDepth 100000 in
theorem cnX11_naked_1 (l : Launch) (dC : Nat → ClassId) (dI : Nat → Nat → Nat) (cy : Nat → ClassId) (h0 : Nat) (r : Nat → Nat) : ctI l (dC, dI) cy yX11_naked cX11_naked 3 .int 2 81 0 0 Unit [.ref h0] [(h0, .inr (11, mFs r mv0)), ((r 59), .inl (cy 1, 39, .inl zF)), ((r 60), .inl (cy 1, 39, .inl zF))] (fun r _ => r = F_naked ) (fun u => []) := by
  refine ctI_of (by decide) (Nat.le_of_ble_eq_true rfl) (fun p e s m below meth c A ls Q hx hb hml hts hown hE hP hD hA hl ret => ?_)
  have hown : s.vm.findClass RX11 = some m.cls := hown
  have hS : va_S A s.heap s.heap [] := va_S.rf
  have hl : lv_has ls 3 [(0, .ref h0)] := hl
  refine lv_aload_n hx hb dX11_naked_0 rfl (lv_at hl 0 rfl) ?_
  refine caVv (n := 0) (wr := []) (rest := []) hx hb hml hown hts hE hP hD hS hA (cnX11_fill_1 l dC dI cy h0 r) k_1739 k_1741 k_71 k_114 k_1742 (by decide +kernel) ⟨Nat.le_of_ble_eq_true rfl, Nat.le_of_ble_eq_true rfl⟩ [0, 1, 2] [] rfl rfl rfl (by decide) (by decide) (by decide) 0 11 rfl rfl rfl hl.1 rfl (Nat.le_of_ble_eq_true rfl) dX11_naked_1 ⟨Nat.le_of_ble_eq_true rfl, Nat.le_of_ble_eq_true rfl⟩ (fun u H locs hw hP hD hS => ?_)
  have hP : va_P (dC, dI) vwCl [(h0, .inr (11, mFs r mv0)), ((r 59), .inl (cy 1, 39, .inl zF)), ((r 60), .inl (cy 1, 39, .inl zF))] H := hP
  have hD : va_D A [(h0, .inr (11, mFs r mv0)), ((r 59), .inl (cy 1, 39, .inl zF)), ((r 60), .inl (cy 1, 39, .inl zF))] := hD
  refine lv_iconst (v := 0) hx hb dX11_naked_4 (by decide) ?_
  refine lv_istore_n (lv' := [(1, .int 0), (0, .ref h0)]) hx hb dX11_naked_5 rfl hl (by decide) rfl (fun ls hl => ?_)
  refine lv_iconst (v := 0) hx hb dX11_naked_6 (by decide) ?_
  refine lv_istore_n (lv' := [(2, .int 0), (1, .int 0), (0, .ref h0)]) hx hb dX11_naked_7 rfl hl (by decide) rfl (fun ls hl => ?_)
  refine lv_iload_n hx hb dX11_naked_8 rfl (lv_at hl 0 rfl) ?_
  refine lv_aload_n hx hb dX11_naked_9 rfl (lv_at hl 2 rfl) ?_
  refine va_get (D := (dC, dI)) (ci := 11) (v := .int 0) (C := RX11) (T := TX11) (N := 79) hx hb hts inB_11 hown hE.1 hP 0 rfl rfl 48 (by decide) (hts _ k_1368) (fun _ h9 => h9) rfl dX11_naked_10 ?_
  refine lv_icmp_ge (tgt := 43) hx hb dX11_naked_13 (by decide) (fun _ => ?_) (fun c0 => absurd (by decide) c0)
  refine lv_iload_n hx hb dX11_naked_43 rfl (lv_at hl 1 rfl) ?_
  exact ret 0 () _ _ _ _ _ _ rfl (pt_X11_naked_423 ) (hP.sub [] rfl) (hD.sub [] (by decide) rfl) hS dX11_naked_44 (Nat.le_of_ble_eq_true rfl) (Nat.le_of_ble_eq_true rfl)
theorem pt_X10_popular_424 (p1 : Int32) : ((-1) : Int32) = F_popular p1 := by
  unfold F_popular
  (repeat' split)
  all_goals first | rfl | assumption | (exfalso; simp only [fa_lt, fa_le, fa_eq, tl_m1] at *; omega) | (simp only [fa_lt, fa_le, fa_eq, tl_m1] at *; omega)
set_option maxHeartbeats 4000000 in
set_option maxRecDepth 100000 in
theorem cnX10_popular_1 (l : Launch) (dC : Nat → ClassId) (dI : Nat → Nat → Nat) (cy : Nat → ClassId) (h0 : Nat) (h1 : Nat) (b0 : Nat) (b1 : Nat) (b2 : Nat) (b3 : Nat) (b4 : Nat) (b5 : Nat) (b6 : Nat) (b7 : Nat) (b8 : Nat) (b9 : Nat) (b10 : Nat) (p1 : Int32) : ctI l (dC, dI) cy yX10_popular cX10_popular 2 .int 2 81 0 0 Unit [.ref h0, .int p1] [(h0, .inr (10, [.ref b0, .ref b1, .ref h1, .ref b2, .ref b3, .ref b4, .ref b5, .ref b6, .ref b7, .int 0])), (h1, .inr (7, [.ref b8, .ref b9, .ref b10, .int 0, .int 0, .int 10, .int 150, .int 2, .int 0, .int 0]))] (fun r _ => r = F_popular p1) (fun u => []) := by
  refine ctI_of (by decide) (Nat.le_of_ble_eq_true rfl) (fun p e s m below meth c A ls Q hx hb hml hts hown hE hP hD hA hl ret => ?_)
  have hown : s.vm.findClass RX10 = some m.cls := hown
  have hS : va_S A s.heap s.heap [] := va_S.rf
  have hl : lv_has ls 2 [(0, .ref h0), (1, .int p1)] := hl
  refine lv_aload_n hx hb dX10_popular_0 rfl (lv_at hl 0 rfl) ?_
  refine va_get (D := (dC, dI)) (ci := 10) (v := .ref h1) (C := RX10) (T := TX10) (N := 10) hx hb hts inB_10 hown hE.1 hP 0 rfl rfl 2 (by decide) (hts _ k_493) (fun _ h9 => h9) rfl dX10_popular_1 ?_
  refine lv_iload_n hx hb dX10_popular_4 rfl (lv_at hl 1 rfl) ?_
  refine caVi (n := 1) (wr := [(h0, .inr (10, [.ref b0, .ref b1, .ref h1, .ref b2, .ref b3, .ref b4, .ref b5, .ref b6, .ref b7, .int 0]))]) (rest := []) hx hb hml hown hts hE hP hD hS hA (cnX7_hasCoat_1 l dC dI cy h1 b8 b9 b10 p1) k_848 k_315 k_316 k_104 k_317 (by decide +kernel) ⟨Nat.le_of_ble_eq_true rfl, Nat.le_of_ble_eq_true rfl⟩ [1] [0] rfl rfl rfl (by decide) (by decide) (by decide) 0 7 rfl rfl rfl hl.1 rfl (Nat.le_of_ble_eq_true rfl) dX10_popular_5 ⟨Nat.le_of_ble_eq_true rfl, Nat.le_of_ble_eq_true rfl⟩ (fun rr u H locs hw hP hD hS => ?_)
  have hP : va_P (dC, dI) vwCl [(h0, .inr (10, [.ref b0, .ref b1, .ref h1, .ref b2, .ref b3, .ref b4, .ref b5, .ref b6, .ref b7, .int 0])), (h1, .inr (7, [.ref b8, .ref b9, .ref b10, .int 0, .int 0, .int 10, .int 150, .int 2, .int 0, .int 0]))] H := hP
  have hD : va_D A [(h0, .inr (10, [.ref b0, .ref b1, .ref h1, .ref b2, .ref b3, .ref b4, .ref b5, .ref b6, .ref b7, .int 0])), (h1, .inr (7, [.ref b8, .ref b9, .ref b10, .int 0, .int 0, .int 10, .int 150, .int 2, .int 0, .int 0]))] := hD
  refine tI (y := 0) hw ?_
  refine lv_if_eq (tgt := 22) hx hb dX10_popular_8 (by decide) (fun _ => ?_) (fun c0 => absurd (by decide) c0)
  refine lv_iconst (v := (-1)) hx hb dX10_popular_22 (by decide) ?_
  exact ret (-1) () _ _ _ _ _ _ rfl (pt_X10_popular_424 p1) (hP.sub [] rfl) (hD.sub [] (by decide) rfl) hS dX10_popular_23 (Nat.le_of_ble_eq_true rfl) (Nat.le_of_ble_eq_true rfl)
theorem pt_X11_popular_431 (p1 : Int32) : ((-1) : Int32) = F_popular p1 := by
  unfold F_popular
  (repeat' split)
  all_goals first | rfl | assumption | (exfalso; simp only [fa_lt, fa_le, fa_eq, tl_m1] at *; omega) | (simp only [fa_lt, fa_le, fa_eq, tl_m1] at *; omega)
set_option maxHeartbeats 4000000 in
set_option maxRecDepth 100000 in
theorem cnX11_popular_1 (l : Launch) (dC : Nat → ClassId) (dI : Nat → Nat → Nat) (cy : Nat → ClassId) (h0 : Nat) (r : Nat → Nat) (p1 : Int32) : ctI l (dC, dI) cy yX11_popular cX11_popular 2 .int 3 103 0 0 Unit [.ref h0, .int p1] [(h0, .inr (11, mFs r mv0)), ((r 59), .inl (cy 1, 39, .inl zF)), ((r 60), .inl (cy 1, 39, .inl zF))] (fun r _ => r = F_popular p1) (fun u => []) := by
  refine ctI_of (by decide) (Nat.le_of_ble_eq_true rfl) (fun p e s m below meth c A ls Q hx hb hml hts hown hE hP hD hA hl ret => ?_)
  have hown : s.vm.findClass RX11 = some m.cls := hown
  have hS : va_S A s.heap s.heap [] := va_S.rf
  have hl : lv_has ls 2 [(0, .ref h0), (1, .int p1)] := hl
  refine lv_aload_n hx hb dX11_popular_0 rfl (lv_at hl 0 rfl) ?_
  refine caVv (n := 0) (wr := []) (rest := []) hx hb hml hown hts hE hP hD hS hA (cnX11_fill_1 l dC dI cy h0 r) k_1739 k_1741 k_71 k_114 k_1742 (by decide +kernel) ⟨Nat.le_of_ble_eq_true rfl, Nat.le_of_ble_eq_true rfl⟩ [0, 1, 2] [] rfl rfl rfl (by decide) (by decide) (by decide) 0 11 rfl rfl rfl hl.1 rfl (Nat.le_of_ble_eq_true rfl) dX11_popular_1 ⟨Nat.le_of_ble_eq_true rfl, Nat.le_of_ble_eq_true rfl⟩ (fun u H locs hw hP hD hS => ?_)
  have hP : va_P (dC, dI) vwCl [(h0, .inr (11, mFs r mv0)), ((r 59), .inl (cy 1, 39, .inl zF)), ((r 60), .inl (cy 1, 39, .inl zF))] H := hP
  have hD : va_D A [(h0, .inr (11, mFs r mv0)), ((r 59), .inl (cy 1, 39, .inl zF)), ((r 60), .inl (cy 1, 39, .inl zF))] := hD
  refine lv_aload_n hx hb dX11_popular_4 rfl (lv_at hl 0 rfl) ?_
  refine lv_iload_n hx hb dX11_popular_5 rfl (lv_at hl 1 rfl) ?_
  refine caVi (n := 1) (wr := [((r 59), .inl (cy 1, 39, .inl zF)), ((r 60), .inl (cy 1, 39, .inl zF))]) (rest := []) hx hb hml hown hts hE hP hD hS hA (cnX11_isCoat_1 l dC dI cy h0 r p1) k_1771 k_1773 k_75 k_114 k_1774 (by decide +kernel) ⟨Nat.le_of_ble_eq_true rfl, Nat.le_of_ble_eq_true rfl⟩ [0] [1, 2] rfl rfl rfl (by decide) (by decide) (by decide) 0 11 rfl rfl rfl hl.1 rfl (Nat.le_of_ble_eq_true rfl) dX11_popular_6 ⟨Nat.le_of_ble_eq_true rfl, Nat.le_of_ble_eq_true rfl⟩ (fun rr u H locs hw hP hD hS => ?_)
  have hP : va_P (dC, dI) vwCl [((r 59), .inl (cy 1, 39, .inl zF)), ((r 60), .inl (cy 1, 39, .inl zF)), (h0, .inr (11, mFs r mv0))] H := hP
  have hD : va_D A [((r 59), .inl (cy 1, 39, .inl zF)), ((r 60), .inl (cy 1, 39, .inl zF)), (h0, .inr (11, mFs r mv0))] := hD
  refine tI (y := 0) hw ?_
  refine lv_if_eq (tgt := 20) hx hb dX11_popular_9 (by decide) (fun _ => ?_) (fun c0 => absurd (by decide) c0)
  refine lv_iconst (v := (-1)) hx hb dX11_popular_20 (by decide) ?_
  exact ret (-1) () _ _ _ _ _ _ rfl (pt_X11_popular_431 p1) (hP.sub [] rfl) (hD.sub [] (by decide) rfl) hS dX11_popular_21 (Nat.le_of_ble_eq_true rfl) (Nat.le_of_ble_eq_true rfl)
set_option maxHeartbeats 4000000 in
set_option maxRecDepth 100000 in
theorem cnX3_fittingBy_1 (l : Launch) (dC : Nat → ClassId) (dI : Nat → Nat → Nat) (cy : Nat → ClassId) (h0 : Nat) (h1 : Nat) (b0 : Nat) (b1 : Nat) (b2 : Nat) (b3 : Nat) (b4 : Nat) (p1 : Int32) : ctI l (dC, dI) cy yX3_fittingBy cX3_fittingBy 5 .int 1 60 0 0 Unit [.ref h0, .int p1] [(h0, .inr (3, [.ref h1, .ref b0, .ref b1, .int 0, .int 0, .int 0, .int 0, .int 0, .int 0, .int 0])), (h1, .inr (7, [.ref b2, .ref b3, .ref b4, .int 0, .int 0, .int 10, .int 150, .int 2, .int 0, .int 0]))] (fun r _ => r = 0) (fun u => [(h0, .inr (3, [.ref h1, .ref b0, .ref b1, .int 0, .int 0, .int 0, .int 0, .int 0, .int 0, .int 0])), (h1, .inr (7, [.ref b2, .ref b3, .ref b4, .int 0, .int 0, .int 10, .int 150, .int 2, .int 0, .int 0]))]) := by
  refine ctI_of (by decide) (Nat.le_of_ble_eq_true rfl) (fun p e s m below meth c A ls Q hx hb hml hts hown hE hP hD hA hl ret => ?_)
  have hown : s.vm.findClass RX3 = some m.cls := hown
  have hS : va_S A s.heap s.heap [] := va_S.rf
  have hl : lv_has ls 5 [(0, .ref h0), (1, .int p1)] := hl
  refine lv_iconst (v := 0) hx hb dX3_fittingBy_0 (by decide) ?_
  refine lv_istore_n (lv' := [(2, .int 0), (0, .ref h0), (1, .int p1)]) hx hb dX3_fittingBy_1 rfl hl (by decide) rfl (fun ls hl => ?_)
  refine lv_iconst (v := 0) hx hb dX3_fittingBy_2 (by decide) ?_
  refine lv_istore_n (lv' := [(3, .int 0), (2, .int 0), (0, .ref h0), (1, .int p1)]) hx hb dX3_fittingBy_3 rfl hl (by decide) rfl (fun ls hl => ?_)
  refine lv_iload_n hx hb dX3_fittingBy_4 rfl (lv_at hl 0 rfl) ?_
  refine lv_aload_n hx hb dX3_fittingBy_5 rfl (lv_at hl 2 rfl) ?_
  refine va_get (D := (dC, dI)) (ci := 3) (v := .ref h1) (C := RX3) (T := TX3) (N := 10) hx hb hts inB_3 hown hE.1 hP 0 rfl rfl 0 (by decide) (hts _ k_370) (fun _ h9 => h9) rfl dX3_fittingBy_6 ?_
  refine va_getN (D := (dC, dI)) (ci := 7) (v := .int 0) (C := RX7) (T := TX7) (N := 10) hx hb hts inB_7 hown hE.1 hP 1 rfl rfl 3 (by decide) (va_Nw.use rfl (hE.2 _ k_217)) (fun _ h9 => h9) rfl dX3_fittingBy_9 ?_
  refine lv_icmp_ge (tgt := 54) hx hb dX3_fittingBy_12 (by decide) (fun _ => ?_) (fun c0 => absurd (by decide) c0)
  refine lv_iload_n hx hb dX3_fittingBy_54 rfl (lv_at hl 1 rfl) ?_
  exact ret 0 () _ _ _ _ _ _ rfl rfl (hP.sub [0, 1] rfl) (hD.sub [0, 1] (by decide) rfl) hS dX3_fittingBy_55 (Nat.le_of_ble_eq_true rfl) (Nat.le_of_ble_eq_true rfl)
theorem pt_X10_law_432 (p1 : Int32) (c1 : p1 < 0) : ((-1) : Int32) = F_law p1 := by
  unfold F_law
  (repeat' split)
  all_goals first | rfl | assumption | (exfalso; simp only [fa_lt, fa_le, fa_eq, tl_m1, tl_0, tl_999] at *; omega) | (simp only [fa_lt, fa_le, fa_eq, tl_m1, tl_0, tl_999] at *; omega)
theorem pt_X10_law_433 (p1 : Int32) (c1 : ¬ p1 < 0) (c2 : p1 ≤ 999) : (0 : Int32) = F_law p1 := by
  unfold F_law
  (repeat' split)
  all_goals first | rfl | assumption | (exfalso; simp only [fa_lt, fa_le, fa_eq, tl_m1, tl_0, tl_999] at *; omega) | (simp only [fa_lt, fa_le, fa_eq, tl_m1, tl_0, tl_999] at *; omega)
theorem pt_X10_law_434 (p1 : Int32) (c1 : ¬ p1 < 0) (c2 : ¬ p1 ≤ 999) : ((-1) : Int32) = F_law p1 := by
  unfold F_law
  (repeat' split)
  all_goals first | rfl | assumption | (exfalso; simp only [fa_lt, fa_le, fa_eq, tl_m1, tl_0, tl_999] at *; omega) | (simp only [fa_lt, fa_le, fa_eq, tl_m1, tl_0, tl_999] at *; omega)
set_option maxHeartbeats 4000000 in
set_option maxRecDepth 100000 in
theorem cnX10_law_1 (l : Launch) (dC : Nat → ClassId) (dI : Nat → Nat → Nat) (cy : Nat → ClassId) (h0 : Nat) (h1 : Nat) (h2 : Nat) (b0 : Nat) (b1 : Nat) (b2 : Nat) (b3 : Nat) (b4 : Nat) (b5 : Nat) (b6 : Nat) (b7 : Nat) (b8 : Nat) (b9 : Nat) (b10 : Nat) (p1 : Int32) : ctI l (dC, dI) cy yX10_law cX10_law 2 .int 2 84 0 0 Unit [.ref h0, .int p1] [(h0, .inr (10, [.ref b0, .ref b1, .ref h2, .ref b2, .ref b3, .ref h1, .ref b4, .ref b5, .ref b6, .int 0])), (h1, .inr (3, [.ref h2, .ref b2, .ref b7, .int 0, .int 0, .int 0, .int 0, .int 0, .int 0, .int 0])), (h2, .inr (7, [.ref b8, .ref b9, .ref b10, .int 0, .int 0, .int 10, .int 150, .int 2, .int 0, .int 0]))] (fun r _ => r = F_law p1) (fun u => []) := by
  refine ctI_of (by decide) (Nat.le_of_ble_eq_true rfl) (fun p e s m below meth c A ls Q hx hb hml hts hown hE hP hD hA hl ret => ?_)
  have hown : s.vm.findClass RX10 = some m.cls := hown
  have hS : va_S A s.heap s.heap [] := va_S.rf
  have hl : lv_has ls 2 [(0, .ref h0), (1, .int p1)] := hl
  refine lv_iload_n hx hb dX10_law_0 rfl (lv_at hl 1 rfl) ?_
  refine lv_if_lt (tgt := 11) hx hb dX10_law_1 (by decide) (fun c1 => ?_) (fun c1 => ?_)
  · skip
    refine lv_iconst (v := (-1)) hx hb dX10_law_11 (by decide) ?_
    refine lv_goto (tgt := 23) hx hb dX10_law_12 (by decide) ?_
    exact ret (-1) () _ _ _ _ _ _ rfl (pt_X10_law_432 p1 c1) (hP.sub [] rfl) (hD.sub [] (by decide) rfl) hS dX10_law_23 (Nat.le_of_ble_eq_true rfl) (Nat.le_of_ble_eq_true rfl)
  · skip
    refine lv_iload_n hx hb dX10_law_4 rfl (lv_at hl 1 rfl) ?_
    refine lv_sipush (v := 999) hx hb dX10_law_5 (by decide) ?_
    refine lv_icmp_le (tgt := 15) hx hb dX10_law_8 (by decide) (fun c2 => ?_) (fun c2 => ?_)
    · skip
      refine lv_aload_n hx hb dX10_law_15 rfl (lv_at hl 0 rfl) ?_
      refine va_get (D := (dC, dI)) (ci := 10) (v := .ref h1) (C := RX10) (T := TX10) (N := 10) hx hb hts inB_10 hown hE.1 hP 0 rfl rfl 5 (by decide) (hts _ k_496) (fun _ h9 => h9) rfl dX10_law_16 ?_
      refine lv_iload_n hx hb dX10_law_19 rfl (lv_at hl 1 rfl) ?_
      refine caVi (n := 1) (wr := [(h0, .inr (10, [.ref b0, .ref b1, .ref h2, .ref b2, .ref b3, .ref h1, .ref b4, .ref b5, .ref b6, .int 0]))]) (rest := []) hx hb hml hown hts hE hP hD hS hA (cnX3_fittingBy_1 l dC dI cy h1 h2 b2 b7 b8 b9 b10 p1) k_1179 k_1180 k_1181 k_109 k_1182 (by decide +kernel) ⟨Nat.le_of_ble_eq_true rfl, Nat.le_of_ble_eq_true rfl⟩ [1, 2] [0] rfl rfl rfl (by decide) (by decide) (by decide) 0 3 rfl rfl rfl hl.1 rfl (Nat.le_of_ble_eq_true rfl) dX10_law_20 ⟨Nat.le_of_ble_eq_true rfl, Nat.le_of_ble_eq_true rfl⟩ (fun rr u H locs hw hP hD hS => ?_)
      have hP : va_P (dC, dI) vwCl [(h0, .inr (10, [.ref b0, .ref b1, .ref h2, .ref b2, .ref b3, .ref h1, .ref b4, .ref b5, .ref b6, .int 0])), (h1, .inr (3, [.ref h2, .ref b2, .ref b7, .int 0, .int 0, .int 0, .int 0, .int 0, .int 0, .int 0])), (h2, .inr (7, [.ref b8, .ref b9, .ref b10, .int 0, .int 0, .int 10, .int 150, .int 2, .int 0, .int 0]))] H := hP
      have hD : va_D A [(h0, .inr (10, [.ref b0, .ref b1, .ref h2, .ref b2, .ref b3, .ref h1, .ref b4, .ref b5, .ref b6, .int 0])), (h1, .inr (3, [.ref h2, .ref b2, .ref b7, .int 0, .int 0, .int 0, .int 0, .int 0, .int 0, .int 0])), (h2, .inr (7, [.ref b8, .ref b9, .ref b10, .int 0, .int 0, .int 10, .int 150, .int 2, .int 0, .int 0]))] := hD
      refine tI (y := 0) hw ?_
      exact ret 0 () _ _ _ _ _ _ rfl (pt_X10_law_433 p1 c1 c2) (hP.sub [] rfl) (hD.sub [] (by decide) rfl) hS dX10_law_23 (Nat.le_of_ble_eq_true rfl) (Nat.le_of_ble_eq_true rfl)
    · skip
      refine lv_iconst (v := (-1)) hx hb dX10_law_11 (by decide) ?_
      refine lv_goto (tgt := 23) hx hb dX10_law_12 (by decide) ?_
      exact ret (-1) () _ _ _ _ _ _ rfl (pt_X10_law_434 p1 c1 c2) (hP.sub [] rfl) (hD.sub [] (by decide) rfl) hS dX10_law_23 (Nat.le_of_ble_eq_true rfl) (Nat.le_of_ble_eq_true rfl)
theorem pt_X11_law_441 (p1 : Int32) (c1 : 0 ≤ p1 ∧ p1 ≤ 999) (c1 : 0 ≤ p1 ∧ p1 ≤ 999) : (0 : Int32) = F_law p1 := by
  unfold F_law
  (repeat' split)
  all_goals first | rfl | assumption | (exfalso; simp only [fa_lt, fa_le, fa_eq, tl_m1, tl_0, tl_999] at *; omega) | (simp only [fa_lt, fa_le, fa_eq, tl_m1, tl_0, tl_999] at *; omega)
theorem pt_X11_law_442 (p1 : Int32) (c1 : ¬ (0 ≤ p1 ∧ p1 ≤ 999)) : ((-1) : Int32) = F_law p1 := by
  unfold F_law
  (repeat' split)
  all_goals first | rfl | assumption | (exfalso; simp only [fa_lt, fa_le, fa_eq, tl_m1, tl_0, tl_999] at *; omega) | (simp only [fa_lt, fa_le, fa_eq, tl_m1, tl_0, tl_999] at *; omega)
set_option maxHeartbeats 4000000 in
set_option maxRecDepth 100000 in
theorem cnX11_law_1 (l : Launch) (dC : Nat → ClassId) (dI : Nat → Nat → Nat) (cy : Nat → ClassId) (h0 : Nat) (r : Nat → Nat) (p1 : Int32) : ctI l (dC, dI) cy yX11_law cX11_law 4 .int 2 82 0 0 Unit [.ref h0, .int p1] [(h0, .inr (11, mFs r mv0)), ((r 59), .inl (cy 1, 39, .inl zF)), ((r 60), .inl (cy 1, 39, .inl zF))] (fun r _ => r = F_law p1) (fun u => []) := by
  refine ctI_of (by decide) (Nat.le_of_ble_eq_true rfl) (fun p e s m below meth c A ls Q hx hb hml hts hown hE hP hD hA hl ret => ?_)
  have hown : s.vm.findClass RX11 = some m.cls := hown
  have hS : va_S A s.heap s.heap [] := va_S.rf
  have hl : lv_has ls 4 [(0, .ref h0), (1, .int p1)] := hl
  refine lv_iload_n hx hb dX11_law_0 rfl (lv_at hl 1 rfl) ?_
  refine lv_iconst (v := 0) hx hb dX11_law_1 (by decide) ?_
  refine lv_sipush (v := 999) hx hb dX11_law_2 (by decide) ?_
  by_cases c1 : (0 ≤ p1 ∧ p1 ≤ 999)
  · skip
    refine caSi (n := 3) (wr := [(h0, .inr (11, mFs r mv0)), ((r 59), .inl (cy 1, 39, .inl zF)), ((r 60), .inl (cy 1, 39, .inl zF))]) (rest := []) hx hb hml hown hts hE hP hD hS hA (cnX11_isIn_6 l dC dI cy p1 c1) k_1736 k_1737 k_114 k_1738 (by decide +kernel) ⟨Nat.le_of_ble_eq_true rfl, Nat.le_of_ble_eq_true rfl⟩ [] [0, 1, 2] rfl rfl rfl (by decide) (by decide) (by decide) rfl hl.1 rfl (Nat.le_of_ble_eq_true rfl) dX11_law_5 ⟨Nat.le_of_ble_eq_true rfl, Nat.le_of_ble_eq_true rfl⟩ (fun rr u H locs hw hP hD hS => ?_)
    have hP : va_P (dC, dI) vwCl [(h0, .inr (11, mFs r mv0)), ((r 59), .inl (cy 1, 39, .inl zF)), ((r 60), .inl (cy 1, 39, .inl zF))] H := hP
    have hD : va_D A [(h0, .inr (11, mFs r mv0)), ((r 59), .inl (cy 1, 39, .inl zF)), ((r 60), .inl (cy 1, 39, .inl zF))] := hD
    refine tI (y := 1) hw ?_
    refine lv_if_ne (tgt := 13) hx hb dX11_law_8 (by decide) (fun _ => ?_) (fun c0 => absurd c0 (by decide))
    refine lv_aload_n hx hb dX11_law_13 rfl (lv_at hl 0 rfl) ?_
    refine caVv (n := 0) (wr := []) (rest := []) hx hb hml hown hts hE hP hD hS hA (cnX11_fill_1 l dC dI cy h0 r) k_1739 k_1741 k_71 k_114 k_1742 (by decide +kernel) ⟨Nat.le_of_ble_eq_true rfl, Nat.le_of_ble_eq_true rfl⟩ [0, 1, 2] [] rfl rfl rfl (by decide) (by decide) (by decide) 0 11 rfl rfl rfl hl.1 rfl (Nat.le_of_ble_eq_true rfl) dX11_law_14 ⟨Nat.le_of_ble_eq_true rfl, Nat.le_of_ble_eq_true rfl⟩ (fun u H locs hw hP hD hS => ?_)
    have hP : va_P (dC, dI) vwCl [(h0, .inr (11, mFs r mv0)), ((r 59), .inl (cy 1, 39, .inl zF)), ((r 60), .inl (cy 1, 39, .inl zF))] H := hP
    have hD : va_D A [(h0, .inr (11, mFs r mv0)), ((r 59), .inl (cy 1, 39, .inl zF)), ((r 60), .inl (cy 1, 39, .inl zF))] := hD
    refine lv_iconst (v := 0) hx hb dX11_law_17 (by decide) ?_
    refine lv_istore_n (lv' := [(2, .int 0), (0, .ref h0), (1, .int p1)]) hx hb dX11_law_18 rfl hl (by decide) rfl (fun ls hl => ?_)
    refine lv_iconst (v := 0) hx hb dX11_law_19 (by decide) ?_
    refine lv_istore_n (lv' := [(3, .int 0), (2, .int 0), (0, .ref h0), (1, .int p1)]) hx hb dX11_law_20 rfl hl (by decide) rfl (fun ls hl => ?_)
    refine lv_iload_n hx hb dX11_law_21 rfl (lv_at hl 0 rfl) ?_
    refine lv_aload_n hx hb dX11_law_22 rfl (lv_at hl 2 rfl) ?_
    refine va_get (D := (dC, dI)) (ci := 11) (v := .int 0) (C := RX11) (T := TX11) (N := 79) hx hb hts inB_11 hown hE.1 hP 0 rfl rfl 48 (by decide) (hts _ k_1368) (fun _ h9 => h9) rfl dX11_law_23 ?_
    refine lv_icmp_ge (tgt := 63) hx hb dX11_law_26 (by decide) (fun _ => ?_) (fun c0 => absurd (by decide) c0)
    refine lv_iload_n hx hb dX11_law_63 rfl (lv_at hl 1 rfl) ?_
    exact ret 0 () _ _ _ _ _ _ rfl (pt_X11_law_441 p1 c1 c1) (hP.sub [] rfl) (hD.sub [] (by decide) rfl) hS dX11_law_64 (Nat.le_of_ble_eq_true rfl) (Nat.le_of_ble_eq_true rfl)
  · skip
    refine caSi (n := 3) (wr := [(h0, .inr (11, mFs r mv0)), ((r 59), .inl (cy 1, 39, .inl zF)), ((r 60), .inl (cy 1, 39, .inl zF))]) (rest := []) hx hb hml hown hts hE hP hD hS hA (cnX11_isIn_7 l dC dI cy p1 c1) k_1736 k_1737 k_114 k_1738 (by decide +kernel) ⟨Nat.le_of_ble_eq_true rfl, Nat.le_of_ble_eq_true rfl⟩ [] [0, 1, 2] rfl rfl rfl (by decide) (by decide) (by decide) rfl hl.1 rfl (Nat.le_of_ble_eq_true rfl) dX11_law_5 ⟨Nat.le_of_ble_eq_true rfl, Nat.le_of_ble_eq_true rfl⟩ (fun rr u H locs hw hP hD hS => ?_)
    have hP : va_P (dC, dI) vwCl [(h0, .inr (11, mFs r mv0)), ((r 59), .inl (cy 1, 39, .inl zF)), ((r 60), .inl (cy 1, 39, .inl zF))] H := hP
    have hD : va_D A [(h0, .inr (11, mFs r mv0)), ((r 59), .inl (cy 1, 39, .inl zF)), ((r 60), .inl (cy 1, 39, .inl zF))] := hD
    refine tI (y := 0) hw ?_
    refine lv_if_ne (tgt := 13) hx hb dX11_law_8 (by decide) (fun c0 => absurd (by decide) c0) (fun _ => ?_)
    refine lv_iconst (v := (-1)) hx hb dX11_law_11 (by decide) ?_
    exact ret (-1) () _ _ _ _ _ _ rfl (pt_X11_law_442 p1 c1) (hP.sub [] rfl) (hD.sub [] (by decide) rfl) hS dX11_law_12 (Nat.le_of_ble_eq_true rfl) (Nat.le_of_ble_eq_true rfl)
set_option maxHeartbeats 4000000 in
set_option maxRecDepth 100000 in
theorem cnX3_worstIllness_1 (l : Launch) (dC : Nat → ClassId) (dI : Nat → Nat → Nat) (cy : Nat → ClassId) (h0 : Nat) (h1 : Nat) (b0 : Nat) (b1 : Nat) (b2 : Nat) (b3 : Nat) (b4 : Nat) : ctI l (dC, dI) cy yX3_worstIllness cX3_worstIllness 4 .int 1 60 0 0 Unit [.ref h0] [(h0, .inr (3, [.ref h1, .ref b0, .ref b1, .int 0, .int 0, .int 0, .int 0, .int 0, .int 0, .int 0])), (h1, .inr (7, [.ref b2, .ref b3, .ref b4, .int 0, .int 0, .int 10, .int 150, .int 2, .int 0, .int 0]))] (fun r _ => r = 0) (fun u => [(h0, .inr (3, [.ref h1, .ref b0, .ref b1, .int 0, .int 0, .int 0, .int 0, .int 0, .int 0, .int 0])), (h1, .inr (7, [.ref b2, .ref b3, .ref b4, .int 0, .int 0, .int 10, .int 150, .int 2, .int 0, .int 0]))]) := by
  refine ctI_of (by decide) (Nat.le_of_ble_eq_true rfl) (fun p e s m below meth c A ls Q hx hb hml hts hown hE hP hD hA hl ret => ?_)
  have hown : s.vm.findClass RX3 = some m.cls := hown
  have hS : va_S A s.heap s.heap [] := va_S.rf
  have hl : lv_has ls 4 [(0, .ref h0)] := hl
  refine lv_iconst (v := 0) hx hb dX3_worstIllness_0 (by decide) ?_
  refine lv_istore_n (lv' := [(1, .int 0), (0, .ref h0)]) hx hb dX3_worstIllness_1 rfl hl (by decide) rfl (fun ls hl => ?_)
  refine lv_iconst (v := 0) hx hb dX3_worstIllness_2 (by decide) ?_
  refine lv_istore_n (lv' := [(2, .int 0), (1, .int 0), (0, .ref h0)]) hx hb dX3_worstIllness_3 rfl hl (by decide) rfl (fun ls hl => ?_)
  refine lv_iload_n hx hb dX3_worstIllness_4 rfl (lv_at hl 0 rfl) ?_
  refine lv_aload_n hx hb dX3_worstIllness_5 rfl (lv_at hl 2 rfl) ?_
  refine va_get (D := (dC, dI)) (ci := 3) (v := .ref h1) (C := RX3) (T := TX3) (N := 10) hx hb hts inB_3 hown hE.1 hP 0 rfl rfl 0 (by decide) (hts _ k_370) (fun _ h9 => h9) rfl dX3_worstIllness_6 ?_
  refine va_getN (D := (dC, dI)) (ci := 7) (v := .int 0) (C := RX7) (T := TX7) (N := 10) hx hb hts inB_7 hown hE.1 hP 1 rfl rfl 3 (by decide) (va_Nw.use rfl (hE.2 _ k_217)) (fun _ h9 => h9) rfl dX3_worstIllness_9 ?_
  refine lv_icmp_ge (tgt := 49) hx hb dX3_worstIllness_12 (by decide) (fun _ => ?_) (fun c0 => absurd (by decide) c0)
  refine lv_iload_n hx hb dX3_worstIllness_49 rfl (lv_at hl 1 rfl) ?_
  exact ret 0 () _ _ _ _ _ _ rfl rfl (hP.sub [0, 1] rfl) (hD.sub [0, 1] (by decide) rfl) hS dX3_worstIllness_50 (Nat.le_of_ble_eq_true rfl) (Nat.le_of_ble_eq_true rfl)
theorem pt_X10_ease_443 : (0 : Int32) = F_ease  := by
  unfold F_ease
  (repeat' split)
  all_goals first | rfl | assumption | (exfalso; simp only [fa_lt, fa_le, fa_eq, tl_0] at *; omega) | (simp only [fa_lt, fa_le, fa_eq, tl_0] at *; omega)
set_option maxHeartbeats 4000000 in
set_option maxRecDepth 100000 in
theorem cnX10_ease_1 (l : Launch) (dC : Nat → ClassId) (dI : Nat → Nat → Nat) (cy : Nat → ClassId) (h0 : Nat) (h1 : Nat) (h2 : Nat) (b0 : Nat) (b1 : Nat) (b2 : Nat) (b3 : Nat) (b4 : Nat) (b5 : Nat) (b6 : Nat) (b7 : Nat) (b8 : Nat) (b9 : Nat) (b10 : Nat) : ctI l (dC, dI) cy yX10_ease cX10_ease 1 .int 2 83 0 0 Unit [.ref h0] [(h0, .inr (10, [.ref b0, .ref b1, .ref h2, .ref b2, .ref b3, .ref h1, .ref b4, .ref b5, .ref b6, .int 0])), (h1, .inr (3, [.ref h2, .ref b2, .ref b7, .int 0, .int 0, .int 0, .int 0, .int 0, .int 0, .int 0])), (h2, .inr (7, [.ref b8, .ref b9, .ref b10, .int 0, .int 0, .int 10, .int 150, .int 2, .int 0, .int 0]))] (fun r _ => r = F_ease ) (fun u => []) := by
  refine ctI_of (by decide) (Nat.le_of_ble_eq_true rfl) (fun p e s m below meth c A ls Q hx hb hml hts hown hE hP hD hA hl ret => ?_)
  have hown : s.vm.findClass RX10 = some m.cls := hown
  have hS : va_S A s.heap s.heap [] := va_S.rf
  have hl : lv_has ls 1 [(0, .ref h0)] := hl
  refine lv_aload_n hx hb dX10_ease_0 rfl (lv_at hl 0 rfl) ?_
  refine va_get (D := (dC, dI)) (ci := 10) (v := .ref h1) (C := RX10) (T := TX10) (N := 10) hx hb hts inB_10 hown hE.1 hP 0 rfl rfl 5 (by decide) (hts _ k_496) (fun _ h9 => h9) rfl dX10_ease_1 ?_
  refine caVi (n := 0) (wr := [(h0, .inr (10, [.ref b0, .ref b1, .ref h2, .ref b2, .ref b3, .ref h1, .ref b4, .ref b5, .ref b6, .int 0]))]) (rest := []) hx hb hml hown hts hE hP hD hS hA (cnX3_worstIllness_1 l dC dI cy h1 h2 b2 b7 b8 b9 b10) k_1188 k_1189 k_1190 k_109 k_1191 (by decide +kernel) ⟨Nat.le_of_ble_eq_true rfl, Nat.le_of_ble_eq_true rfl⟩ [1, 2] [0] rfl rfl rfl (by decide) (by decide) (by decide) 0 3 rfl rfl rfl hl.1 rfl (Nat.le_of_ble_eq_true rfl) dX10_ease_4 ⟨Nat.le_of_ble_eq_true rfl, Nat.le_of_ble_eq_true rfl⟩ (fun rr u H locs hw hP hD hS => ?_)
  have hP : va_P (dC, dI) vwCl [(h0, .inr (10, [.ref b0, .ref b1, .ref h2, .ref b2, .ref b3, .ref h1, .ref b4, .ref b5, .ref b6, .int 0])), (h1, .inr (3, [.ref h2, .ref b2, .ref b7, .int 0, .int 0, .int 0, .int 0, .int 0, .int 0, .int 0])), (h2, .inr (7, [.ref b8, .ref b9, .ref b10, .int 0, .int 0, .int 10, .int 150, .int 2, .int 0, .int 0]))] H := hP
  have hD : va_D A [(h0, .inr (10, [.ref b0, .ref b1, .ref h2, .ref b2, .ref b3, .ref h1, .ref b4, .ref b5, .ref b6, .int 0])), (h1, .inr (3, [.ref h2, .ref b2, .ref b7, .int 0, .int 0, .int 0, .int 0, .int 0, .int 0, .int 0])), (h2, .inr (7, [.ref b8, .ref b9, .ref b10, .int 0, .int 0, .int 10, .int 150, .int 2, .int 0, .int 0]))] := hD
  refine tI (y := 0) hw ?_
  exact ret 0 () _ _ _ _ _ _ rfl (pt_X10_ease_443 ) (hP.sub [] rfl) (hD.sub [] (by decide) rfl) hS dX10_ease_7 (Nat.le_of_ble_eq_true rfl) (Nat.le_of_ble_eq_true rfl)
