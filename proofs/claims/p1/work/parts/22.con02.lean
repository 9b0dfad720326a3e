set_option maxHeartbeats 4000000 in
set_option maxRecDepth 100000 in
theorem cnX9_hasRoom_1 (l : Launch) (dC : Nat → ClassId) (dI : Nat → Nat → Nat) (cy : Nat → ClassId) (h0 : Nat) (b0 : Nat) : ctI l (dC, dI) cy yX9_hasRoom cX9_hasRoom 1 .boolean 1 60 0 0 Unit [.ref h0] [(h0, .inr (9, [.ref b0, .int 0, .int 0, .int 0, .int 0, .int 0]))] (fun r _ => r = 1) (fun u => [(h0, .inr (9, [.ref b0, .int 0, .int 0, .int 0, .int 0, .int 0]))]) := by
  refine ctI_of (by decide) (Nat.le_of_ble_eq_true rfl) (fun p e s m below meth c A ls Q hx hb hml hts hown hE hP hD hA hl ret => ?_)
  have hown : s.vm.findClass RX9 = some m.cls := hown
  have hS : va_S A s.heap s.heap [] := va_S.rf
  have hl : lv_has ls 1 [(0, .ref h0)] := hl
  refine lv_aload_n hx hb dX9_hasRoom_0 rfl (lv_at hl 0 rfl) ?_
  refine va_get (D := (dC, dI)) (ci := 9) (v := .int 0) (C := RX9) (T := TX9) (N := 6) hx hb hts inB_9 hown hE.1 hP 0 rfl rfl 1 (by decide) (hts _ k_137) (fun _ h9 => h9) rfl dX9_hasRoom_1 ?_
  refine lv_bipush (v := 20) hx hb dX9_hasRoom_4 (by decide) ?_
  refine lv_iadd hx hb dX9_hasRoom_6 ?_
  refine tI (y := 20) (by decide) ?_
  refine lv_sipush (v := 1600) hx hb dX9_hasRoom_7 (by decide) ?_
  refine lv_icmp_gt (tgt := 17) hx hb dX9_hasRoom_10 (by decide) (fun c0 => absurd c0 (by decide)) (fun _ => ?_)
  refine lv_iconst (v := 1) hx hb dX9_hasRoom_13 (by decide) ?_
  refine lv_goto (tgt := 18) hx hb dX9_hasRoom_14 (by decide) ?_
  exact ret 1 () _ _ _ _ _ _ rfl rfl (hP.sub [0] rfl) (hD.sub [0] (by decide) rfl) hS dX9_hasRoom_18 (Nat.le_of_ble_eq_true rfl) (Nat.le_of_ble_eq_true rfl)
set_option maxHeartbeats 4000000 in
set_option maxRecDepth 100000 in
theorem cnX9_append_1 (l : Launch) (dC : Nat → ClassId) (dI : Nat → Nat → Nat) (cy : Nat → ClassId) (h0 : Nat) (h1 : Nat) (f0 : Nat → Int32) (p1 : Int32) : ctV l (dC, dI) cy yX9_append cX9_append 3 1 60 0 0 ((Nat → Int32)) [.ref h0, .int p1] [(h0, .inr (9, [.ref h1, .int 0, .int 0, .int 0, .int 0, .int 0])), (h1, .inl (cy 0, 1600, .inl f0))] (fun _ => True) (fun u => [(h0, .inr (9, [.ref h1, .int 4, .int 0, .int 0, .int 0, .int 0])), (h1, .inl (cy 0, 1600, .inl u))]) := by
  refine ctV_of (by decide) (Nat.le_of_ble_eq_true rfl) (fun p e s m below meth c A ls Q hx hb hml hts hown hnm hE hP hD hA hl ret => ?_)
  have hown : s.vm.findClass RX9 = some m.cls := hown
  have hS : va_S A s.heap s.heap [] := va_S.rf
  have hl : lv_has ls 3 [(0, .ref h0), (1, .int p1)] := hl
  refine lv_bipush (v := 24) hx hb dX9_append_0 (by decide) ?_
  refine lv_istore_n (lv' := [(2, .int 24), (0, .ref h0), (1, .int p1)]) hx hb dX9_append_2 rfl hl (by decide) rfl (fun ls hl => ?_)
  refine lv_iload_n hx hb dX9_append_3 rfl (lv_at hl 0 rfl) ?_
  refine lv_if_lt (tgt := 46) hx hb dX9_append_4 (by decide) (fun c0 => absurd c0 (by decide)) (fun _ => ?_)
  refine lv_aload_n hx hb dX9_append_7 rfl (lv_at hl 1 rfl) ?_
  refine va_get (D := (dC, dI)) (ci := 9) (v := .int 0) (C := RX9) (T := TX9) (N := 6) hx hb hts inB_9 hown hE.1 hP 0 rfl rfl 1 (by decide) (hts _ k_137) (fun _ h9 => h9) rfl dX9_append_8 ?_
  refine lv_sipush (v := 1600) hx hb dX9_append_11 (by decide) ?_
  refine lv_icmp_ge (tgt := 46) hx hb dX9_append_14 (by decide) (fun c0 => absurd c0 (by decide)) (fun _ => ?_)
  refine lv_aload_n hx hb dX9_append_17 rfl (lv_at hl 1 rfl) ?_
  refine va_get (D := (dC, dI)) (ci := 9) (v := .ref h1) (C := RX9) (T := TX9) (N := 6) hx hb hts inB_9 hown hE.1 hP 0 rfl rfl 0 (by decide) (hts _ k_136) (fun _ h9 => h9) rfl dX9_append_18 ?_
  refine lv_aload_n hx hb dX9_append_21 rfl (lv_at hl 1 rfl) ?_
  refine va_get (D := (dC, dI)) (ci := 9) (v := .int 0) (C := RX9) (T := TX9) (N := 6) hx hb hts inB_9 hown hE.1 hP 0 rfl rfl 1 (by decide) (hts _ k_137) (fun _ h9 => h9) rfl dX9_append_22 ?_
  refine lv_iload_n hx hb dX9_append_25 rfl (lv_at hl 2 rfl) ?_
  refine lv_iload_n hx hb dX9_append_26 rfl (lv_at hl 0 rfl) ?_
  refine lv_ishr hx hb dX9_append_27 ?_
  refine lv_topi (fun t1 et1 => ?_)
  refine lv_i2b hx hb dX9_append_28 rfl ?_
  refine lv_topi (fun t2 et2 => ?_)
  refine stB (k := 0) hx hb hE hP hD hS 1 rfl (vp_in_nI (n := 0) (by decide) (by decide)) (nI_clamp (n := 0) (by decide)) dX9_append_29 (fun H locs hP hD hS => ?_)
  have hP : va_P (dC, dI) vwCl [(h0, .inr (9, [.ref h1, .int 0, .int 0, .int 0, .int 0, .int 0])), (h1, .inl (cy 0, 1600, .inl (upd f0 0 (vp_nar .byte t2))))] H := hP
  have hD : va_D A [(h0, .inr (9, [.ref h1, .int 0, .int 0, .int 0, .int 0, .int 0])), (h1, .inl (cy 0, 1600, .inl (upd f0 0 (vp_nar .byte t2))))] := hD
  refine lv_aload_n hx hb dX9_append_30 rfl (lv_at hl 1 rfl) ?_
  refine lv_dup hx hb dX9_append_31 rfl ?_
  refine va_get (D := (dC, dI)) (ci := 9) (v := .int 0) (C := RX9) (T := TX9) (N := 6) hx hb hts inB_9 hown hE.1 hP 0 rfl rfl 1 (by decide) (hts _ k_137) (fun _ h9 => h9) rfl dX9_append_32 ?_
  refine lv_iconst (v := 1) hx hb dX9_append_35 (by decide) ?_
  refine lv_iadd hx hb dX9_append_36 ?_
  refine tI (y := 1) (by decide) ?_
  refine va_put (D := (dC, dI)) (ci := 9) (v := .int 1) (ty := tyX9 1) (C := RX9) (T := TX9) (N := 6) hx hb hts inB_9 tyX9 tyX9_ok nmX9 hown hE.1 hP hD hS 0 rfl rfl 1 (by decide) (hts _ k_137) (fun _ h9 => h9) rfl (tyX9_ok 1 (by decide)) rfl rfl (Nat.le_of_ble_eq_true rfl) dX9_append_37 (fun H locs hP hD hS => ?_)
  have hP : va_P (dC, dI) vwCl [(h0, .inr (9, [.ref h1, .int 1, .int 0, .int 0, .int 0, .int 0])), (h1, .inl (cy 0, 1600, .inl (upd f0 0 (vp_nar .byte t2))))] H := hP
  have hD : va_D A [(h0, .inr (9, [.ref h1, .int 1, .int 0, .int 0, .int 0, .int 0])), (h1, .inl (cy 0, 1600, .inl (upd f0 0 (vp_nar .byte t2))))] := hD
  refine lv_iinc (v := 16) (lv' := [(2, .int 16), (0, .ref h0), (1, .int p1)]) hx hb dX9_append_40 hl (k := 0) rfl (by decide) (by decide) rfl (fun ls hl => ?_)
  refine lv_goto (tgt := 3) hx hb dX9_append_43 (by decide) ?_
  refine lv_iload_n hx hb dX9_append_3 rfl (lv_at hl 0 rfl) ?_
  refine lv_if_lt (tgt := 46) hx hb dX9_append_4 (by decide) (fun c0 => absurd c0 (by decide)) (fun _ => ?_)
  refine lv_aload_n hx hb dX9_append_7 rfl (lv_at hl 1 rfl) ?_
  refine va_get (D := (dC, dI)) (ci := 9) (v := .int 1) (C := RX9) (T := TX9) (N := 6) hx hb hts inB_9 hown hE.1 hP 0 rfl rfl 1 (by decide) (hts _ k_137) (fun _ h9 => h9) rfl dX9_append_8 ?_
  refine lv_sipush (v := 1600) hx hb dX9_append_11 (by decide) ?_
  refine lv_icmp_ge (tgt := 46) hx hb dX9_append_14 (by decide) (fun c0 => absurd c0 (by decide)) (fun _ => ?_)
  refine lv_aload_n hx hb dX9_append_17 rfl (lv_at hl 1 rfl) ?_
  refine va_get (D := (dC, dI)) (ci := 9) (v := .ref h1) (C := RX9) (T := TX9) (N := 6) hx hb hts inB_9 hown hE.1 hP 0 rfl rfl 0 (by decide) (hts _ k_136) (fun _ h9 => h9) rfl dX9_append_18 ?_
  refine lv_aload_n hx hb dX9_append_21 rfl (lv_at hl 1 rfl) ?_
  refine va_get (D := (dC, dI)) (ci := 9) (v := .int 1) (C := RX9) (T := TX9) (N := 6) hx hb hts inB_9 hown hE.1 hP 0 rfl rfl 1 (by decide) (hts _ k_137) (fun _ h9 => h9) rfl dX9_append_22 ?_
  refine lv_iload_n hx hb dX9_append_25 rfl (lv_at hl 2 rfl) ?_
  refine lv_iload_n hx hb dX9_append_26 rfl (lv_at hl 0 rfl) ?_
  refine lv_ishr hx hb dX9_append_27 ?_
  refine lv_topi (fun t3 et3 => ?_)
  refine lv_i2b hx hb dX9_append_28 rfl ?_
  refine lv_topi (fun t4 et4 => ?_)
  refine stB (k := 1) hx hb hE hP hD hS 1 rfl (vp_in_nI (n := 1) (by decide) (by decide)) (nI_clamp (n := 1) (by decide)) dX9_append_29 (fun H locs hP hD hS => ?_)
  have hP : va_P (dC, dI) vwCl [(h0, .inr (9, [.ref h1, .int 1, .int 0, .int 0, .int 0, .int 0])), (h1, .inl (cy 0, 1600, .inl (upd (upd f0 0 (vp_nar .byte t2)) 1 (vp_nar .byte t4))))] H := hP
  have hD : va_D A [(h0, .inr (9, [.ref h1, .int 1, .int 0, .int 0, .int 0, .int 0])), (h1, .inl (cy 0, 1600, .inl (upd (upd f0 0 (vp_nar .byte t2)) 1 (vp_nar .byte t4))))] := hD
  refine lv_aload_n hx hb dX9_append_30 rfl (lv_at hl 1 rfl) ?_
  refine lv_dup hx hb dX9_append_31 rfl ?_
  refine va_get (D := (dC, dI)) (ci := 9) (v := .int 1) (C := RX9) (T := TX9) (N := 6) hx hb hts inB_9 hown hE.1 hP 0 rfl rfl 1 (by decide) (hts _ k_137) (fun _ h9 => h9) rfl dX9_append_32 ?_
  refine lv_iconst (v := 1) hx hb dX9_append_35 (by decide) ?_
  refine lv_iadd hx hb dX9_append_36 ?_
  refine tI (y := 2) (by decide) ?_
  refine va_put (D := (dC, dI)) (ci := 9) (v := .int 2) (ty := tyX9 1) (C := RX9) (T := TX9) (N := 6) hx hb hts inB_9 tyX9 tyX9_ok nmX9 hown hE.1 hP hD hS 0 rfl rfl 1 (by decide) (hts _ k_137) (fun _ h9 => h9) rfl (tyX9_ok 1 (by decide)) rfl rfl (Nat.le_of_ble_eq_true rfl) dX9_append_37 (fun H locs hP hD hS => ?_)
  have hP : va_P (dC, dI) vwCl [(h0, .inr (9, [.ref h1, .int 2, .int 0, .int 0, .int 0, .int 0])), (h1, .inl (cy 0, 1600, .inl (upd (upd f0 0 (vp_nar .byte t2)) 1 (vp_nar .byte t4))))] H := hP
  have hD : va_D A [(h0, .inr (9, [.ref h1, .int 2, .int 0, .int 0, .int 0, .int 0])), (h1, .inl (cy 0, 1600, .inl (upd (upd f0 0 (vp_nar .byte t2)) 1 (vp_nar .byte t4))))] := hD
  refine lv_iinc (v := 8) (lv' := [(2, .int 8), (0, .ref h0), (1, .int p1)]) hx hb dX9_append_40 hl (k := 0) rfl (by decide) (by decide) rfl (fun ls hl => ?_)
  refine lv_goto (tgt := 3) hx hb dX9_append_43 (by decide) ?_
  refine lv_iload_n hx hb dX9_append_3 rfl (lv_at hl 0 rfl) ?_
  refine lv_if_lt (tgt := 46) hx hb dX9_append_4 (by decide) (fun c0 => absurd c0 (by decide)) (fun _ => ?_)
  refine lv_aload_n hx hb dX9_append_7 rfl (lv_at hl 1 rfl) ?_
  refine va_get (D := (dC, dI)) (ci := 9) (v := .int 2) (C := RX9) (T := TX9) (N := 6) hx hb hts inB_9 hown hE.1 hP 0 rfl rfl 1 (by decide) (hts _ k_137) (fun _ h9 => h9) rfl dX9_append_8 ?_
  refine lv_sipush (v := 1600) hx hb dX9_append_11 (by decide) ?_
  refine lv_icmp_ge (tgt := 46) hx hb dX9_append_14 (by decide) (fun c0 => absurd c0 (by decide)) (fun _ => ?_)
  refine lv_aload_n hx hb dX9_append_17 rfl (lv_at hl 1 rfl) ?_
  refine va_get (D := (dC, dI)) (ci := 9) (v := .ref h1) (C := RX9) (T := TX9) (N := 6) hx hb hts inB_9 hown hE.1 hP 0 rfl rfl 0 (by decide) (hts _ k_136) (fun _ h9 => h9) rfl dX9_append_18 ?_
  refine lv_aload_n hx hb dX9_append_21 rfl (lv_at hl 1 rfl) ?_
  refine va_get (D := (dC, dI)) (ci := 9) (v := .int 2) (C := RX9) (T := TX9) (N := 6) hx hb hts inB_9 hown hE.1 hP 0 rfl rfl 1 (by decide) (hts _ k_137) (fun _ h9 => h9) rfl dX9_append_22 ?_
  refine lv_iload_n hx hb dX9_append_25 rfl (lv_at hl 2 rfl) ?_
  refine lv_iload_n hx hb dX9_append_26 rfl (lv_at hl 0 rfl) ?_
  refine lv_ishr hx hb dX9_append_27 ?_
  refine lv_topi (fun t5 et5 => ?_)
  refine lv_i2b hx hb dX9_append_28 rfl ?_
  refine lv_topi (fun t6 et6 => ?_)
  refine stB (k := 2) hx hb hE hP hD hS 1 rfl (vp_in_nI (n := 2) (by decide) (by decide)) (nI_clamp (n := 2) (by decide)) dX9_append_29 (fun H locs hP hD hS => ?_)
  have hP : va_P (dC, dI) vwCl [(h0, .inr (9, [.ref h1, .int 2, .int 0, .int 0, .int 0, .int 0])), (h1, .inl (cy 0, 1600, .inl (upd (upd (upd f0 0 (vp_nar .byte t2)) 1 (vp_nar .byte t4)) 2 (vp_nar .byte t6))))] H := hP
  have hD : va_D A [(h0, .inr (9, [.ref h1, .int 2, .int 0, .int 0, .int 0, .int 0])), (h1, .inl (cy 0, 1600, .inl (upd (upd (upd f0 0 (vp_nar .byte t2)) 1 (vp_nar .byte t4)) 2 (vp_nar .byte t6))))] := hD
  refine lv_aload_n hx hb dX9_append_30 rfl (lv_at hl 1 rfl) ?_
  refine lv_dup hx hb dX9_append_31 rfl ?_
  refine va_get (D := (dC, dI)) (ci := 9) (v := .int 2) (C := RX9) (T := TX9) (N := 6) hx hb hts inB_9 hown hE.1 hP 0 rfl rfl 1 (by decide) (hts _ k_137) (fun _ h9 => h9) rfl dX9_append_32 ?_
  refine lv_iconst (v := 1) hx hb dX9_append_35 (by decide) ?_
  refine lv_iadd hx hb dX9_append_36 ?_
  refine tI (y := 3) (by decide) ?_
  refine va_put (D := (dC, dI)) (ci := 9) (v := .int 3) (ty := tyX9 1) (C := RX9) (T := TX9) (N := 6) hx hb hts inB_9 tyX9 tyX9_ok nmX9 hown hE.1 hP hD hS 0 rfl rfl 1 (by decide) (hts _ k_137) (fun _ h9 => h9) rfl (tyX9_ok 1 (by decide)) rfl rfl (Nat.le_of_ble_eq_true rfl) dX9_append_37 (fun H locs hP hD hS => ?_)
  have hP : va_P (dC, dI) vwCl [(h0, .inr (9, [.ref h1, .int 3, .int 0, .int 0, .int 0, .int 0])), (h1, .inl (cy 0, 1600, .inl (upd (upd (upd f0 0 (vp_nar .byte t2)) 1 (vp_nar .byte t4)) 2 (vp_nar .byte t6))))] H := hP
  have hD : va_D A [(h0, .inr (9, [.ref h1, .int 3, .int 0, .int 0, .int 0, .int 0])), (h1, .inl (cy 0, 1600, .inl (upd (upd (upd f0 0 (vp_nar .byte t2)) 1 (vp_nar .byte t4)) 2 (vp_nar .byte t6))))] := hD
  refine lv_iinc (v := 0) (lv' := [(2, .int 0), (0, .ref h0), (1, .int p1)]) hx hb dX9_append_40 hl (k := 0) rfl (by decide) (by decide) rfl (fun ls hl => ?_)
  refine lv_goto (tgt := 3) hx hb dX9_append_43 (by decide) ?_
  refine lv_iload_n hx hb dX9_append_3 rfl (lv_at hl 0 rfl) ?_
  refine lv_if_lt (tgt := 46) hx hb dX9_append_4 (by decide) (fun c0 => absurd c0 (by decide)) (fun _ => ?_)
  refine lv_aload_n hx hb dX9_append_7 rfl (lv_at hl 1 rfl) ?_
  refine va_get (D := (dC, dI)) (ci := 9) (v := .int 3) (C := RX9) (T := TX9) (N := 6) hx hb hts inB_9 hown hE.1 hP 0 rfl rfl 1 (by decide) (hts _ k_137) (fun _ h9 => h9) rfl dX9_append_8 ?_
  refine lv_sipush (v := 1600) hx hb dX9_append_11 (by decide) ?_
  refine lv_icmp_ge (tgt := 46) hx hb dX9_append_14 (by decide) (fun c0 => absurd c0 (by decide)) (fun _ => ?_)
  refine lv_aload_n hx hb dX9_append_17 rfl (lv_at hl 1 rfl) ?_
  refine va_get (D := (dC, dI)) (ci := 9) (v := .ref h1) (C := RX9) (T := TX9) (N := 6) hx hb hts inB_9 hown hE.1 hP 0 rfl rfl 0 (by decide) (hts _ k_136) (fun _ h9 => h9) rfl dX9_append_18 ?_
  refine lv_aload_n hx hb dX9_append_21 rfl (lv_at hl 1 rfl) ?_
  refine va_get (D := (dC, dI)) (ci := 9) (v := .int 3) (C := RX9) (T := TX9) (N := 6) hx hb hts inB_9 hown hE.1 hP 0 rfl rfl 1 (by decide) (hts _ k_137) (fun _ h9 => h9) rfl dX9_append_22 ?_
  refine lv_iload_n hx hb dX9_append_25 rfl (lv_at hl 2 rfl) ?_
  refine lv_iload_n hx hb dX9_append_26 rfl (lv_at hl 0 rfl) ?_
  refine lv_ishr hx hb dX9_append_27 ?_
  refine lv_topi (fun t7 et7 => ?_)
  refine lv_i2b hx hb dX9_append_28 rfl ?_
  refine lv_topi (fun t8 et8 => ?_)
  refine stB (k := 3) hx hb hE hP hD hS 1 rfl (vp_in_nI (n := 3) (by decide) (by decide)) (nI_clamp (n := 3) (by decide)) dX9_append_29 (fun H locs hP hD hS => ?_)
  have hP : va_P (dC, dI) vwCl [(h0, .inr (9, [.ref h1, .int 3, .int 0, .int 0, .int 0, .int 0])), (h1, .inl (cy 0, 1600, .inl (upd (upd (upd (upd f0 0 (vp_nar .byte t2)) 1 (vp_nar .byte t4)) 2 (vp_nar .byte t6)) 3 (vp_nar .byte t8))))] H := hP
  have hD : va_D A [(h0, .inr (9, [.ref h1, .int 3, .int 0, .int 0, .int 0, .int 0])), (h1, .inl (cy 0, 1600, .inl (upd (upd (upd (upd f0 0 (vp_nar .byte t2)) 1 (vp_nar .byte t4)) 2 (vp_nar .byte t6)) 3 (vp_nar .byte t8))))] := hD
  refine lv_aload_n hx hb dX9_append_30 rfl (lv_at hl 1 rfl) ?_
  refine lv_dup hx hb dX9_append_31 rfl ?_
  refine va_get (D := (dC, dI)) (ci := 9) (v := .int 3) (C := RX9) (T := TX9) (N := 6) hx hb hts inB_9 hown hE.1 hP 0 rfl rfl 1 (by decide) (hts _ k_137) (fun _ h9 => h9) rfl dX9_append_32 ?_
  refine lv_iconst (v := 1) hx hb dX9_append_35 (by decide) ?_
  refine lv_iadd hx hb dX9_append_36 ?_
  refine tI (y := 4) (by decide) ?_
  refine va_put (D := (dC, dI)) (ci := 9) (v := .int 4) (ty := tyX9 1) (C := RX9) (T := TX9) (N := 6) hx hb hts inB_9 tyX9 tyX9_ok nmX9 hown hE.1 hP hD hS 0 rfl rfl 1 (by decide) (hts _ k_137) (fun _ h9 => h9) rfl (tyX9_ok 1 (by decide)) rfl rfl (Nat.le_of_ble_eq_true rfl) dX9_append_37 (fun H locs hP hD hS => ?_)
  have hP : va_P (dC, dI) vwCl [(h0, .inr (9, [.ref h1, .int 4, .int 0, .int 0, .int 0, .int 0])), (h1, .inl (cy 0, 1600, .inl (upd (upd (upd (upd f0 0 (vp_nar .byte t2)) 1 (vp_nar .byte t4)) 2 (vp_nar .byte t6)) 3 (vp_nar .byte t8))))] H := hP
  have hD : va_D A [(h0, .inr (9, [.ref h1, .int 4, .int 0, .int 0, .int 0, .int 0])), (h1, .inl (cy 0, 1600, .inl (upd (upd (upd (upd f0 0 (vp_nar .byte t2)) 1 (vp_nar .byte t4)) 2 (vp_nar .byte t6)) 3 (vp_nar .byte t8))))] := hD
  refine lv_iinc (v := (-8)) (lv' := [(2, .int (-8)), (0, .ref h0), (1, .int p1)]) hx hb dX9_append_40 hl (k := 0) rfl (by decide) (by decide) rfl (fun ls hl => ?_)
  refine lv_goto (tgt := 3) hx hb dX9_append_43 (by decide) ?_
  refine lv_iload_n hx hb dX9_append_3 rfl (lv_at hl 0 rfl) ?_
  refine lv_if_lt (tgt := 46) hx hb dX9_append_4 (by decide) (fun _ => ?_) (fun c0 => absurd (by decide) c0)
  exact ret ((upd (upd (upd (upd f0 0 (vp_nar .byte t2)) 1 (vp_nar .byte t4)) 2 (vp_nar .byte t6)) 3 (vp_nar .byte t8))) _ _ _ _ _ _ trivial (hP.sub [0, 1] rfl) (hD.sub [0, 1] (by decide) rfl) hS dX9_append_46 (Nat.le_of_ble_eq_true rfl) (Nat.le_of_ble_eq_true rfl)
set_option maxHeartbeats 4000000 in
set_option maxRecDepth 100000 in
theorem cnX9_append_2 (l : Launch) (dC : Nat → ClassId) (dI : Nat → Nat → Nat) (cy : Nat → ClassId) (h0 : Nat) (h1 : Nat) (f0 : Nat → Int32) (p1 : Int32) : ctV l (dC, dI) cy yX9_append cX9_append 3 1 60 0 0 ((Nat → Int32)) [.ref h0, .int p1] [(h0, .inr (9, [.ref h1, .int 4, .int 0, .int 0, .int 0, .int 0])), (h1, .inl (cy 0, 1600, .inl f0))] (fun _ => True) (fun u => [(h0, .inr (9, [.ref h1, .int 8, .int 0, .int 0, .int 0, .int 0])), (h1, .inl (cy 0, 1600, .inl u))]) := by
  refine ctV_of (by decide) (Nat.le_of_ble_eq_true rfl) (fun p e s m below meth c A ls Q hx hb hml hts hown hnm hE hP hD hA hl ret => ?_)
  have hown : s.vm.findClass RX9 = some m.cls := hown
  have hS : va_S A s.heap s.heap [] := va_S.rf
  have hl : lv_has ls 3 [(0, .ref h0), (1, .int p1)] := hl
  refine lv_bipush (v := 24) hx hb dX9_append_0 (by decide) ?_
  refine lv_istore_n (lv' := [(2, .int 24), (0, .ref h0), (1, .int p1)]) hx hb dX9_append_2 rfl hl (by decide) rfl (fun ls hl => ?_)
  refine lv_iload_n hx hb dX9_append_3 rfl (lv_at hl 0 rfl) ?_
  refine lv_if_lt (tgt := 46) hx hb dX9_append_4 (by decide) (fun c0 => absurd c0 (by decide)) (fun _ => ?_)
  refine lv_aload_n hx hb dX9_append_7 rfl (lv_at hl 1 rfl) ?_
  refine va_get (D := (dC, dI)) (ci := 9) (v := .int 4) (C := RX9) (T := TX9) (N := 6) hx hb hts inB_9 hown hE.1 hP 0 rfl rfl 1 (by decide) (hts _ k_137) (fun _ h9 => h9) rfl dX9_append_8 ?_
  refine lv_sipush (v := 1600) hx hb dX9_append_11 (by decide) ?_
  refine lv_icmp_ge (tgt := 46) hx hb dX9_append_14 (by decide) (fun c0 => absurd c0 (by decide)) (fun _ => ?_)
  refine lv_aload_n hx hb dX9_append_17 rfl (lv_at hl 1 rfl) ?_
  refine va_get (D := (dC, dI)) (ci := 9) (v := .ref h1) (C := RX9) (T := TX9) (N := 6) hx hb hts inB_9 hown hE.1 hP 0 rfl rfl 0 (by decide) (hts _ k_136) (fun _ h9 => h9) rfl dX9_append_18 ?_
  refine lv_aload_n hx hb dX9_append_21 rfl (lv_at hl 1 rfl) ?_
  refine va_get (D := (dC, dI)) (ci := 9) (v := .int 4) (C := RX9) (T := TX9) (N := 6) hx hb hts inB_9 hown hE.1 hP 0 rfl rfl 1 (by decide) (hts _ k_137) (fun _ h9 => h9) rfl dX9_append_22 ?_
  refine lv_iload_n hx hb dX9_append_25 rfl (lv_at hl 2 rfl) ?_
  refine lv_iload_n hx hb dX9_append_26 rfl (lv_at hl 0 rfl) ?_
  refine lv_ishr hx hb dX9_append_27 ?_
  refine lv_topi (fun t1 et1 => ?_)
  refine lv_i2b hx hb dX9_append_28 rfl ?_
  refine lv_topi (fun t2 et2 => ?_)
  refine stB (k := 4) hx hb hE hP hD hS 1 rfl (vp_in_nI (n := 4) (by decide) (by decide)) (nI_clamp (n := 4) (by decide)) dX9_append_29 (fun H locs hP hD hS => ?_)
  have hP : va_P (dC, dI) vwCl [(h0, .inr (9, [.ref h1, .int 4, .int 0, .int 0, .int 0, .int 0])), (h1, .inl (cy 0, 1600, .inl (upd f0 4 (vp_nar .byte t2))))] H := hP
  have hD : va_D A [(h0, .inr (9, [.ref h1, .int 4, .int 0, .int 0, .int 0, .int 0])), (h1, .inl (cy 0, 1600, .inl (upd f0 4 (vp_nar .byte t2))))] := hD
  refine lv_aload_n hx hb dX9_append_30 rfl (lv_at hl 1 rfl) ?_
  refine lv_dup hx hb dX9_append_31 rfl ?_
  refine va_get (D := (dC, dI)) (ci := 9) (v := .int 4) (C := RX9) (T := TX9) (N := 6) hx hb hts inB_9 hown hE.1 hP 0 rfl rfl 1 (by decide) (hts _ k_137) (fun _ h9 => h9) rfl dX9_append_32 ?_
  refine lv_iconst (v := 1) hx hb dX9_append_35 (by decide) ?_
  refine lv_iadd hx hb dX9_append_36 ?_
  refine tI (y := 5) (by decide) ?_
  refine va_put (D := (dC, dI)) (ci := 9) (v := .int 5) (ty := tyX9 1) (C := RX9) (T := TX9) (N := 6) hx hb hts inB_9 tyX9 tyX9_ok nmX9 hown hE.1 hP hD hS 0 rfl rfl 1 (by decide) (hts _ k_137) (fun _ h9 => h9) rfl (tyX9_ok 1 (by decide)) rfl rfl (Nat.le_of_ble_eq_true rfl) dX9_append_37 (fun H locs hP hD hS => ?_)
  have hP : va_P (dC, dI) vwCl [(h0, .inr (9, [.ref h1, .int 5, .int 0, .int 0, .int 0, .int 0])), (h1, .inl (cy 0, 1600, .inl (upd f0 4 (vp_nar .byte t2))))] H := hP
  have hD : va_D A [(h0, .inr (9, [.ref h1, .int 5, .int 0, .int 0, .int 0, .int 0])), (h1, .inl (cy 0, 1600, .inl (upd f0 4 (vp_nar .byte t2))))] := hD
  refine lv_iinc (v := 16) (lv' := [(2, .int 16), (0, .ref h0), (1, .int p1)]) hx hb dX9_append_40 hl (k := 0) rfl (by decide) (by decide) rfl (fun ls hl => ?_)
  refine lv_goto (tgt := 3) hx hb dX9_append_43 (by decide) ?_
  refine lv_iload_n hx hb dX9_append_3 rfl (lv_at hl 0 rfl) ?_
  refine lv_if_lt (tgt := 46) hx hb dX9_append_4 (by decide) (fun c0 => absurd c0 (by decide)) (fun _ => ?_)
  refine lv_aload_n hx hb dX9_append_7 rfl (lv_at hl 1 rfl) ?_
  refine va_get (D := (dC, dI)) (ci := 9) (v := .int 5) (C := RX9) (T := TX9) (N := 6) hx hb hts inB_9 hown hE.1 hP 0 rfl rfl 1 (by decide) (hts _ k_137) (fun _ h9 => h9) rfl dX9_append_8 ?_
  refine lv_sipush (v := 1600) hx hb dX9_append_11 (by decide) ?_
  refine lv_icmp_ge (tgt := 46) hx hb dX9_append_14 (by decide) (fun c0 => absurd c0 (by decide)) (fun _ => ?_)
  refine lv_aload_n hx hb dX9_append_17 rfl (lv_at hl 1 rfl) ?_
  refine va_get (D := (dC, dI)) (ci := 9) (v := .ref h1) (C := RX9) (T := TX9) (N := 6) hx hb hts inB_9 hown hE.1 hP 0 rfl rfl 0 (by decide) (hts _ k_136) (fun _ h9 => h9) rfl dX9_append_18 ?_
  refine lv_aload_n hx hb dX9_append_21 rfl (lv_at hl 1 rfl) ?_
  refine va_get (D := (dC, dI)) (ci := 9) (v := .int 5) (C := RX9) (T := TX9) (N := 6) hx hb hts inB_9 hown hE.1 hP 0 rfl rfl 1 (by decide) (hts _ k_137) (fun _ h9 => h9) rfl dX9_append_22 ?_
  refine lv_iload_n hx hb dX9_append_25 rfl (lv_at hl 2 rfl) ?_
  refine lv_iload_n hx hb dX9_append_26 rfl (lv_at hl 0 rfl) ?_
  refine lv_ishr hx hb dX9_append_27 ?_
  refine lv_topi (fun t3 et3 => ?_)
  refine lv_i2b hx hb dX9_append_28 rfl ?_
  refine lv_topi (fun t4 et4 => ?_)
  refine stB (k := 5) hx hb hE hP hD hS 1 rfl (vp_in_nI (n := 5) (by decide) (by decide)) (nI_clamp (n := 5) (by decide)) dX9_append_29 (fun H locs hP hD hS => ?_)
  have hP : va_P (dC, dI) vwCl [(h0, .inr (9, [.ref h1, .int 5, .int 0, .int 0, .int 0, .int 0])), (h1, .inl (cy 0, 1600, .inl (upd (upd f0 4 (vp_nar .byte t2)) 5 (vp_nar .byte t4))))] H := hP
  have hD : va_D A [(h0, .inr (9, [.ref h1, .int 5, .int 0, .int 0, .int 0, .int 0])), (h1, .inl (cy 0, 1600, .inl (upd (upd f0 4 (vp_nar .byte t2)) 5 (vp_nar .byte t4))))] := hD
  refine lv_aload_n hx hb dX9_append_30 rfl (lv_at hl 1 rfl) ?_
  refine lv_dup hx hb dX9_append_31 rfl ?_
  refine va_get (D := (dC, dI)) (ci := 9) (v := .int 5) (C := RX9) (T := TX9) (N := 6) hx hb hts inB_9 hown hE.1 hP 0 rfl rfl 1 (by decide) (hts _ k_137) (fun _ h9 => h9) rfl dX9_append_32 ?_
  refine lv_iconst (v := 1) hx hb dX9_append_35 (by decide) ?_
  refine lv_iadd hx hb dX9_append_36 ?_
  refine tI (y := 6) (by decide) ?_
  refine va_put (D := (dC, dI)) (ci := 9) (v := .int 6) (ty := tyX9 1) (C := RX9) (T := TX9) (N := 6) hx hb hts inB_9 tyX9 tyX9_ok nmX9 hown hE.1 hP hD hS 0 rfl rfl 1 (by decide) (hts _ k_137) (fun _ h9 => h9) rfl (tyX9_ok 1 (by decide)) rfl rfl (Nat.le_of_ble_eq_true rfl) dX9_append_37 (fun H locs hP hD hS => ?_)
  have hP : va_P (dC, dI) vwCl [(h0, .inr (9, [.ref h1, .int 6, .int 0, .int 0, .int 0, .int 0])), (h1, .inl (cy 0, 1600, .inl (upd (upd f0 4 (vp_nar .byte t2)) 5 (vp_nar .byte t4))))] H := hP
  have hD : va_D A [(h0, .inr (9, [.ref h1, .int 6, .int 0, .int 0, .int 0, .int 0])), (h1, .inl (cy 0, 1600, .inl (upd (upd f0 4 (vp_nar .byte t2)) 5 (vp_nar .byte t4))))] := hD
  refine lv_iinc (v := 8) (lv' := [(2, .int 8), (0, .ref h0), (1, .int p1)]) hx hb dX9_append_40 hl (k := 0) rfl (by decide) (by decide) rfl (fun ls hl => ?_)
  refine lv_goto (tgt := 3) hx hb dX9_append_43 (by decide) ?_
  refine lv_iload_n hx hb dX9_append_3 rfl (lv_at hl 0 rfl) ?_
  refine lv_if_lt (tgt := 46) hx hb dX9_append_4 (by decide) (fun c0 => absurd c0 (by decide)) (fun _ => ?_)
  refine lv_aload_n hx hb dX9_append_7 rfl (lv_at hl 1 rfl) ?_
  refine va_get (D := (dC, dI)) (ci := 9) (v := .int 6) (C := RX9) (T := TX9) (N := 6) hx hb hts inB_9 hown hE.1 hP 0 rfl rfl 1 (by decide) (hts _ k_137) (fun _ h9 => h9) rfl dX9_append_8 ?_
  refine lv_sipush (v := 1600) hx hb dX9_append_11 (by decide) ?_
  refine lv_icmp_ge (tgt := 46) hx hb dX9_append_14 (by decide) (fun c0 => absurd c0 (by decide)) (fun _ => ?_)
  refine lv_aload_n hx hb dX9_append_17 rfl (lv_at hl 1 rfl) ?_
  refine va_get (D := (dC, dI)) (ci := 9) (v := .ref h1) (C := RX9) (T := TX9) (N := 6) hx hb hts inB_9 hown hE.1 hP 0 rfl rfl 0 (by decide) (hts _ k_136) (fun _ h9 => h9) rfl dX9_append_18 ?_
  refine lv_aload_n hx hb dX9_append_21 rfl (lv_at hl 1 rfl) ?_
  refine va_get (D := (dC, dI)) (ci := 9) (v := .int 6) (C := RX9) (T := TX9) (N := 6) hx hb hts inB_9 hown hE.1 hP 0 rfl rfl 1 (by decide) (hts _ k_137) (fun _ h9 => h9) rfl dX9_append_22 ?_
  refine lv_iload_n hx hb dX9_append_25 rfl (lv_at hl 2 rfl) ?_
  refine lv_iload_n hx hb dX9_append_26 rfl (lv_at hl 0 rfl) ?_
  refine lv_ishr hx hb dX9_append_27 ?_
  refine lv_topi (fun t5 et5 => ?_)
  refine lv_i2b hx hb dX9_append_28 rfl ?_
  refine lv_topi (fun t6 et6 => ?_)
  refine stB (k := 6) hx hb hE hP hD hS 1 rfl (vp_in_nI (n := 6) (by decide) (by decide)) (nI_clamp (n := 6) (by decide)) dX9_append_29 (fun H locs hP hD hS => ?_)
  have hP : va_P (dC, dI) vwCl [(h0, .inr (9, [.ref h1, .int 6, .int 0, .int 0, .int 0, .int 0])), (h1, .inl (cy 0, 1600, .inl (upd (upd (upd f0 4 (vp_nar .byte t2)) 5 (vp_nar .byte t4)) 6 (vp_nar .byte t6))))] H := hP
  have hD : va_D A [(h0, .inr (9, [.ref h1, .int 6, .int 0, .int 0, .int 0, .int 0])), (h1, .inl (cy 0, 1600, .inl (upd (upd (upd f0 4 (vp_nar .byte t2)) 5 (vp_nar .byte t4)) 6 (vp_nar .byte t6))))] := hD
  refine lv_aload_n hx hb dX9_append_30 rfl (lv_at hl 1 rfl) ?_
  refine lv_dup hx hb dX9_append_31 rfl ?_
  refine va_get (D := (dC, dI)) (ci := 9) (v := .int 6) (C := RX9) (T := TX9) (N := 6) hx hb hts inB_9 hown hE.1 hP 0 rfl rfl 1 (by decide) (hts _ k_137) (fun _ h9 => h9) rfl dX9_append_32 ?_
  refine lv_iconst (v := 1) hx hb dX9_append_35 (by decide) ?_
  refine lv_iadd hx hb dX9_append_36 ?_
  refine tI (y := 7) (by decide) ?_
  refine va_put (D := (dC, dI)) (ci := 9) (v := .int 7) (ty := tyX9 1) (C := RX9) (T := TX9) (N := 6) hx hb hts inB_9 tyX9 tyX9_ok nmX9 hown hE.1 hP hD hS 0 rfl rfl 1 (by decide) (hts _ k_137) (fun _ h9 => h9) rfl (tyX9_ok 1 (by decide)) rfl rfl (Nat.le_of_ble_eq_true rfl) dX9_append_37 (fun H locs hP hD hS => ?_)
  have hP : va_P (dC, dI) vwCl [(h0, .inr (9, [.ref h1, .int 7, .int 0, .int 0, .int 0, .int 0])), (h1, .inl (cy 0, 1600, .inl (upd (upd (upd f0 4 (vp_nar .byte t2)) 5 (vp_nar .byte t4)) 6 (vp_nar .byte t6))))] H := hP
  have hD : va_D A [(h0, .inr (9, [.ref h1, .int 7, .int 0, .int 0, .int 0, .int 0])), (h1, .inl (cy 0, 1600, .inl (upd (upd (upd f0 4 (vp_nar .byte t2)) 5 (vp_nar .byte t4)) 6 (vp_nar .byte t6))))] := hD
  refine lv_iinc (v := 0) (lv' := [(2, .int 0), (0, .ref h0), (1, .int p1)]) hx hb dX9_append_40 hl (k := 0) rfl (by decide) (by decide) rfl (fun ls hl => ?_)
  refine lv_goto (tgt := 3) hx hb dX9_append_43 (by decide) ?_
  refine lv_iload_n hx hb dX9_append_3 rfl (lv_at hl 0 rfl) ?_
  refine lv_if_lt (tgt := 46) hx hb dX9_append_4 (by decide) (fun c0 => absurd c0 (by decide)) (fun _ => ?_)
  refine lv_aload_n hx hb dX9_append_7 rfl (lv_at hl 1 rfl) ?_
  refine va_get (D := (dC, dI)) (ci := 9) (v := .int 7) (C := RX9) (T := TX9) (N := 6) hx hb hts inB_9 hown hE.1 hP 0 rfl rfl 1 (by decide) (hts _ k_137) (fun _ h9 => h9) rfl dX9_append_8 ?_
  refine lv_sipush (v := 1600) hx hb dX9_append_11 (by decide) ?_
  refine lv_icmp_ge (tgt := 46) hx hb dX9_append_14 (by decide) (fun c0 => absurd c0 (by decide)) (fun _ => ?_)
  refine lv_aload_n hx hb dX9_append_17 rfl (lv_at hl 1 rfl) ?_
  refine va_get (D := (dC, dI)) (ci := 9) (v := .ref h1) (C := RX9) (T := TX9) (N := 6) hx hb hts inB_9 hown hE.1 hP 0 rfl rfl 0 (by decide) (hts _ k_136) (fun _ h9 => h9) rfl dX9_append_18 ?_
  refine lv_aload_n hx hb dX9_append_21 rfl (lv_at hl 1 rfl) ?_
  refine va_get (D := (dC, dI)) (ci := 9) (v := .int 7) (C := RX9) (T := TX9) (N := 6) hx hb hts inB_9 hown hE.1 hP 0 rfl rfl 1 (by decide) (hts _ k_137) (fun _ h9 => h9) rfl dX9_append_22 ?_
  refine lv_iload_n hx hb dX9_append_25 rfl (lv_at hl 2 rfl) ?_
  refine lv_iload_n hx hb dX9_append_26 rfl (lv_at hl 0 rfl) ?_
  refine lv_ishr hx hb dX9_append_27 ?_
  refine lv_topi (fun t7 et7 => ?_)
  refine lv_i2b hx hb dX9_append_28 rfl ?_
  refine lv_topi (fun t8 et8 => ?_)
  refine stB (k := 7) hx hb hE hP hD hS 1 rfl (vp_in_nI (n := 7) (by decide) (by decide)) (nI_clamp (n := 7) (by decide)) dX9_append_29 (fun H locs hP hD hS => ?_)
  have hP : va_P (dC, dI) vwCl [(h0, .inr (9, [.ref h1, .int 7, .int 0, .int 0, .int 0, .int 0])), (h1, .inl (cy 0, 1600, .inl (upd (upd (upd (upd f0 4 (vp_nar .byte t2)) 5 (vp_nar .byte t4)) 6 (vp_nar .byte t6)) 7 (vp_nar .byte t8))))] H := hP
  have hD : va_D A [(h0, .inr (9, [.ref h1, .int 7, .int 0, .int 0, .int 0, .int 0])), (h1, .inl (cy 0, 1600, .inl (upd (upd (upd (upd f0 4 (vp_nar .byte t2)) 5 (vp_nar .byte t4)) 6 (vp_nar .byte t6)) 7 (vp_nar .byte t8))))] := hD
  refine lv_aload_n hx hb dX9_append_30 rfl (lv_at hl 1 rfl) ?_
  refine lv_dup hx hb dX9_append_31 rfl ?_
  refine va_get (D := (dC, dI)) (ci := 9) (v := .int 7) (C := RX9) (T := TX9) (N := 6) hx hb hts inB_9 hown hE.1 hP 0 rfl rfl 1 (by decide) (hts _ k_137) (fun _ h9 => h9) rfl dX9_append_32 ?_
  refine lv_iconst (v := 1) hx hb dX9_append_35 (by decide) ?_
  refine lv_iadd hx hb dX9_append_36 ?_
  refine tI (y := 8) (by decide) ?_
  refine va_put (D := (dC, dI)) (ci := 9) (v := .int 8) (ty := tyX9 1) (C := RX9) (T := TX9) (N := 6) hx hb hts inB_9 tyX9 tyX9_ok nmX9 hown hE.1 hP hD hS 0 rfl rfl 1 (by decide) (hts _ k_137) (fun _ h9 => h9) rfl (tyX9_ok 1 (by decide)) rfl rfl (Nat.le_of_ble_eq_true rfl) dX9_append_37 (fun H locs hP hD hS => ?_)
  have hP : va_P (dC, dI) vwCl [(h0, .inr (9, [.ref h1, .int 8, .int 0, .int 0, .int 0, .int 0])), (h1, .inl (cy 0, 1600, .inl (upd (upd (upd (upd f0 4 (vp_nar .byte t2)) 5 (vp_nar .byte t4)) 6 (vp_nar .byte t6)) 7 (vp_nar .byte t8))))] H := hP
  have hD : va_D A [(h0, .inr (9, [.ref h1, .int 8, .int 0, .int 0, .int 0, .int 0])), (h1, .inl (cy 0, 1600, .inl (upd (upd (upd (upd f0 4 (vp_nar .byte t2)) 5 (vp_nar .byte t4)) 6 (vp_nar .byte t6)) 7 (vp_nar .byte t8))))] := hD
  refine lv_iinc (v := (-8)) (lv' := [(2, .int (-8)), (0, .ref h0), (1, .int p1)]) hx hb dX9_append_40 hl (k := 0) rfl (by decide) (by decide) rfl (fun ls hl => ?_)
  refine lv_goto (tgt := 3) hx hb dX9_append_43 (by decide) ?_
  refine lv_iload_n hx hb dX9_append_3 rfl (lv_at hl 0 rfl) ?_
  refine lv_if_lt (tgt := 46) hx hb dX9_append_4 (by decide) (fun _ => ?_) (fun c0 => absurd (by decide) c0)
  exact ret ((upd (upd (upd (upd f0 4 (vp_nar .byte t2)) 5 (vp_nar .byte t4)) 6 (vp_nar .byte t6)) 7 (vp_nar .byte t8))) _ _ _ _ _ _ trivial (hP.sub [0, 1] rfl) (hD.sub [0, 1] (by decide) rfl) hS dX9_append_46 (Nat.le_of_ble_eq_true rfl) (Nat.le_of_ble_eq_true rfl)
set_option maxHeartbeats 4000000 in
set_option maxRecDepth 100000 in
theorem cnX9_append_3 (l : Launch) (dC : Nat → ClassId) (dI : Nat → Nat → Nat) (cy : Nat → ClassId) (h0 : Nat) (h1 : Nat) (f0 : Nat → Int32) (p1 : Int32) : ctV l (dC, dI) cy yX9_append cX9_append 3 1 60 0 0 ((Nat → Int32)) [.ref h0, .int p1] [(h0, .inr (9, [.ref h1, .int 8, .int 0, .int 0, .int 0, .int 0])), (h1, .inl (cy 0, 1600, .inl f0))] (fun _ => True) (fun u => [(h0, .inr (9, [.ref h1, .int 12, .int 0, .int 0, .int 0, .int 0])), (h1, .inl (cy 0, 1600, .inl u))]) := by
  refine ctV_of (by decide) (Nat.le_of_ble_eq_true rfl) (fun p e s m below meth c A ls Q hx hb hml hts hown hnm hE hP hD hA hl ret => ?_)
  have hown : s.vm.findClass RX9 = some m.cls := hown
  have hS : va_S A s.heap s.heap [] := va_S.rf
  have hl : lv_has ls 3 [(0, .ref h0), (1, .int p1)] := hl
  refine lv_bipush (v := 24) hx hb dX9_append_0 (by decide) ?_
  refine lv_istore_n (lv' := [(2, .int 24), (0, .ref h0), (1, .int p1)]) hx hb dX9_append_2 rfl hl (by decide) rfl (fun ls hl => ?_)
  refine lv_iload_n hx hb dX9_append_3 rfl (lv_at hl 0 rfl) ?_
  refine lv_if_lt (tgt := 46) hx hb dX9_append_4 (by decide) (fun c0 => absurd c0 (by decide)) (fun _ => ?_)
  refine lv_aload_n hx hb dX9_append_7 rfl (lv_at hl 1 rfl) ?_
  refine va_get (D := (dC, dI)) (ci := 9) (v := .int 8) (C := RX9) (T := TX9) (N := 6) hx hb hts inB_9 hown hE.1 hP 0 rfl rfl 1 (by decide) (hts _ k_137) (fun _ h9 => h9) rfl dX9_append_8 ?_
  refine lv_sipush (v := 1600) hx hb dX9_append_11 (by decide) ?_
  refine lv_icmp_ge (tgt := 46) hx hb dX9_append_14 (by decide) (fun c0 => absurd c0 (by decide)) (fun _ => ?_)
  refine lv_aload_n hx hb dX9_append_17 rfl (lv_at hl 1 rfl) ?_
  refine va_get (D := (dC, dI)) (ci := 9) (v := .ref h1) (C := RX9) (T := TX9) (N := 6) hx hb hts inB_9 hown hE.1 hP 0 rfl rfl 0 (by decide) (hts _ k_136) (fun _ h9 => h9) rfl dX9_append_18 ?_
  refine lv_aload_n hx hb dX9_append_21 rfl (lv_at hl 1 rfl) ?_
  refine va_get (D := (dC, dI)) (ci := 9) (v := .int 8) (C := RX9) (T := TX9) (N := 6) hx hb hts inB_9 hown hE.1 hP 0 rfl rfl 1 (by decide) (hts _ k_137) (fun _ h9 => h9) rfl dX9_append_22 ?_
  refine lv_iload_n hx hb dX9_append_25 rfl (lv_at hl 2 rfl) ?_
  refine lv_iload_n hx hb dX9_append_26 rfl (lv_at hl 0 rfl) ?_
  refine lv_ishr hx hb dX9_append_27 ?_
  refine lv_topi (fun t1 et1 => ?_)
  refine lv_i2b hx hb dX9_append_28 rfl ?_
  refine lv_topi (fun t2 et2 => ?_)
  refine stB (k := 8) hx hb hE hP hD hS 1 rfl (vp_in_nI (n := 8) (by decide) (by decide)) (nI_clamp (n := 8) (by decide)) dX9_append_29 (fun H locs hP hD hS => ?_)
  have hP : va_P (dC, dI) vwCl [(h0, .inr (9, [.ref h1, .int 8, .int 0, .int 0, .int 0, .int 0])), (h1, .inl (cy 0, 1600, .inl (upd f0 8 (vp_nar .byte t2))))] H := hP
  have hD : va_D A [(h0, .inr (9, [.ref h1, .int 8, .int 0, .int 0, .int 0, .int 0])), (h1, .inl (cy 0, 1600, .inl (upd f0 8 (vp_nar .byte t2))))] := hD
  refine lv_aload_n hx hb dX9_append_30 rfl (lv_at hl 1 rfl) ?_
  refine lv_dup hx hb dX9_append_31 rfl ?_
  refine va_get (D := (dC, dI)) (ci := 9) (v := .int 8) (C := RX9) (T := TX9) (N := 6) hx hb hts inB_9 hown hE.1 hP 0 rfl rfl 1 (by decide) (hts _ k_137) (fun _ h9 => h9) rfl dX9_append_32 ?_
  refine lv_iconst (v := 1) hx hb dX9_append_35 (by decide) ?_
  refine lv_iadd hx hb dX9_append_36 ?_
  refine tI (y := 9) (by decide) ?_
  refine va_put (D := (dC, dI)) (ci := 9) (v := .int 9) (ty := tyX9 1) (C := RX9) (T := TX9) (N := 6) hx hb hts inB_9 tyX9 tyX9_ok nmX9 hown hE.1 hP hD hS 0 rfl rfl 1 (by decide) (hts _ k_137) (fun _ h9 => h9) rfl (tyX9_ok 1 (by decide)) rfl rfl (Nat.le_of_ble_eq_true rfl) dX9_append_37 (fun H locs hP hD hS => ?_)
  have hP : va_P (dC, dI) vwCl [(h0, .inr (9, [.ref h1, .int 9, .int 0, .int 0, .int 0, .int 0])), (h1, .inl (cy 0, 1600, .inl (upd f0 8 (vp_nar .byte t2))))] H := hP
  have hD : va_D A [(h0, .inr (9, [.ref h1, .int 9, .int 0, .int 0, .int 0, .int 0])), (h1, .inl (cy 0, 1600, .inl (upd f0 8 (vp_nar .byte t2))))] := hD
  refine lv_iinc (v := 16) (lv' := [(2, .int 16), (0, .ref h0), (1, .int p1)]) hx hb dX9_append_40 hl (k := 0) rfl (by decide) (by decide) rfl (fun ls hl => ?_)
  refine lv_goto (tgt := 3) hx hb dX9_append_43 (by decide) ?_
  refine lv_iload_n hx hb dX9_append_3 rfl (lv_at hl 0 rfl) ?_
  refine lv_if_lt (tgt := 46) hx hb dX9_append_4 (by decide) (fun c0 => absurd c0 (by decide)) (fun _ => ?_)
  refine lv_aload_n hx hb dX9_append_7 rfl (lv_at hl 1 rfl) ?_
  refine va_get (D := (dC, dI)) (ci := 9) (v := .int 9) (C := RX9) (T := TX9) (N := 6) hx hb hts inB_9 hown hE.1 hP 0 rfl rfl 1 (by decide) (hts _ k_137) (fun _ h9 => h9) rfl dX9_append_8 ?_
  refine lv_sipush (v := 1600) hx hb dX9_append_11 (by decide) ?_
  refine lv_icmp_ge (tgt := 46) hx hb dX9_append_14 (by decide) (fun c0 => absurd c0 (by decide)) (fun _ => ?_)
  refine lv_aload_n hx hb dX9_append_17 rfl (lv_at hl 1 rfl) ?_
  refine va_get (D := (dC, dI)) (ci := 9) (v := .ref h1) (C := RX9) (T := TX9) (N := 6) hx hb hts inB_9 hown hE.1 hP 0 rfl rfl 0 (by decide) (hts _ k_136) (fun _ h9 => h9) rfl dX9_append_18 ?_
  refine lv_aload_n hx hb dX9_append_21 rfl (lv_at hl 1 rfl) ?_
  refine va_get (D := (dC, dI)) (ci := 9) (v := .int 9) (C := RX9) (T := TX9) (N := 6) hx hb hts inB_9 hown hE.1 hP 0 rfl rfl 1 (by decide) (hts _ k_137) (fun _ h9 => h9) rfl dX9_append_22 ?_
  refine lv_iload_n hx hb dX9_append_25 rfl (lv_at hl 2 rfl) ?_
  refine lv_iload_n hx hb dX9_append_26 rfl (lv_at hl 0 rfl) ?_
  refine lv_ishr hx hb dX9_append_27 ?_
  refine lv_topi (fun t3 et3 => ?_)
  refine lv_i2b hx hb dX9_append_28 rfl ?_
  refine lv_topi (fun t4 et4 => ?_)
  refine stB (k := 9) hx hb hE hP hD hS 1 rfl (vp_in_nI (n := 9) (by decide) (by decide)) (nI_clamp (n := 9) (by decide)) dX9_append_29 (fun H locs hP hD hS => ?_)
  have hP : va_P (dC, dI) vwCl [(h0, .inr (9, [.ref h1, .int 9, .int 0, .int 0, .int 0, .int 0])), (h1, .inl (cy 0, 1600, .inl (upd (upd f0 8 (vp_nar .byte t2)) 9 (vp_nar .byte t4))))] H := hP
  have hD : va_D A [(h0, .inr (9, [.ref h1, .int 9, .int 0, .int 0, .int 0, .int 0])), (h1, .inl (cy 0, 1600, .inl (upd (upd f0 8 (vp_nar .byte t2)) 9 (vp_nar .byte t4))))] := hD
  refine lv_aload_n hx hb dX9_append_30 rfl (lv_at hl 1 rfl) ?_
  refine lv_dup hx hb dX9_append_31 rfl ?_
  refine va_get (D := (dC, dI)) (ci := 9) (v := .int 9) (C := RX9) (T := TX9) (N := 6) hx hb hts inB_9 hown hE.1 hP 0 rfl rfl 1 (by decide) (hts _ k_137) (fun _ h9 => h9) rfl dX9_append_32 ?_
  refine lv_iconst (v := 1) hx hb dX9_append_35 (by decide) ?_
  refine lv_iadd hx hb dX9_append_36 ?_
  refine tI (y := 10) (by decide) ?_
  refine va_put (D := (dC, dI)) (ci := 9) (v := .int 10) (ty := tyX9 1) (C := RX9) (T := TX9) (N := 6) hx hb hts inB_9 tyX9 tyX9_ok nmX9 hown hE.1 hP hD hS 0 rfl rfl 1 (by decide) (hts _ k_137) (fun _ h9 => h9) rfl (tyX9_ok 1 (by decide)) rfl rfl (Nat.le_of_ble_eq_true rfl) dX9_append_37 (fun H locs hP hD hS => ?_)
  have hP : va_P (dC, dI) vwCl [(h0, .inr (9, [.ref h1, .int 10, .int 0, .int 0, .int 0, .int 0])), (h1, .inl (cy 0, 1600, .inl (upd (upd f0 8 (vp_nar .byte t2)) 9 (vp_nar .byte t4))))] H := hP
  have hD : va_D A [(h0, .inr (9, [.ref h1, .int 10, .int 0, .int 0, .int 0, .int 0])), (h1, .inl (cy 0, 1600, .inl (upd (upd f0 8 (vp_nar .byte t2)) 9 (vp_nar .byte t4))))] := hD
  refine lv_iinc (v := 8) (lv' := [(2, .int 8), (0, .ref h0), (1, .int p1)]) hx hb dX9_append_40 hl (k := 0) rfl (by decide) (by decide) rfl (fun ls hl => ?_)
  refine lv_goto (tgt := 3) hx hb dX9_append_43 (by decide) ?_
  refine lv_iload_n hx hb dX9_append_3 rfl (lv_at hl 0 rfl) ?_
  refine lv_if_lt (tgt := 46) hx hb dX9_append_4 (by decide) (fun c0 => absurd c0 (by decide)) (fun _ => ?_)
  refine lv_aload_n hx hb dX9_append_7 rfl (lv_at hl 1 rfl) ?_
  refine va_get (D := (dC, dI)) (ci := 9) (v := .int 10) (C := RX9) (T := TX9) (N := 6) hx hb hts inB_9 hown hE.1 hP 0 rfl rfl 1 (by decide) (hts _ k_137) (fun _ h9 => h9) rfl dX9_append_8 ?_
  refine lv_sipush (v := 1600) hx hb dX9_append_11 (by decide) ?_
  refine lv_icmp_ge (tgt := 46) hx hb dX9_append_14 (by decide) (fun c0 => absurd c0 (by decide)) (fun _ => ?_)
  refine lv_aload_n hx hb dX9_append_17 rfl (lv_at hl 1 rfl) ?_
  refine va_get (D := (dC, dI)) (ci := 9) (v := .ref h1) (C := RX9) (T := TX9) (N := 6) hx hb hts inB_9 hown hE.1 hP 0 rfl rfl 0 (by decide) (hts _ k_136) (fun _ h9 => h9) rfl dX9_append_18 ?_
  refine lv_aload_n hx hb dX9_append_21 rfl (lv_at hl 1 rfl) ?_
  refine va_get (D := (dC, dI)) (ci := 9) (v := .int 10) (C := RX9) (T := TX9) (N := 6) hx hb hts inB_9 hown hE.1 hP 0 rfl rfl 1 (by decide) (hts _ k_137) (fun _ h9 => h9) rfl dX9_append_22 ?_
  refine lv_iload_n hx hb dX9_append_25 rfl (lv_at hl 2 rfl) ?_
  refine lv_iload_n hx hb dX9_append_26 rfl (lv_at hl 0 rfl) ?_
  refine lv_ishr hx hb dX9_append_27 ?_
  refine lv_topi (fun t5 et5 => ?_)
  refine lv_i2b hx hb dX9_append_28 rfl ?_
  refine lv_topi (fun t6 et6 => ?_)
  refine stB (k := 10) hx hb hE hP hD hS 1 rfl (vp_in_nI (n := 10) (by decide) (by decide)) (nI_clamp (n := 10) (by decide)) dX9_append_29 (fun H locs hP hD hS => ?_)
  have hP : va_P (dC, dI) vwCl [(h0, .inr (9, [.ref h1, .int 10, .int 0, .int 0, .int 0, .int 0])), (h1, .inl (cy 0, 1600, .inl (upd (upd (upd f0 8 (vp_nar .byte t2)) 9 (vp_nar .byte t4)) 10 (vp_nar .byte t6))))] H := hP
  have hD : va_D A [(h0, .inr (9, [.ref h1, .int 10, .int 0, .int 0, .int 0, .int 0])), (h1, .inl (cy 0, 1600, .inl (upd (upd (upd f0 8 (vp_nar .byte t2)) 9 (vp_nar .byte t4)) 10 (vp_nar .byte t6))))] := hD
  refine lv_aload_n hx hb dX9_append_30 rfl (lv_at hl 1 rfl) ?_
  refine lv_dup hx hb dX9_append_31 rfl ?_
  refine va_get (D := (dC, dI)) (ci := 9) (v := .int 10) (C := RX9) (T := TX9) (N := 6) hx hb hts inB_9 hown hE.1 hP 0 rfl rfl 1 (by decide) (hts _ k_137) (fun _ h9 => h9) rfl dX9_append_32 ?_
  refine lv_iconst (v := 1) hx hb dX9_append_35 (by decide) ?_
  refine lv_iadd hx hb dX9_append_36 ?_
  refine tI (y := 11) (by decide) ?_
  refine va_put (D := (dC, dI)) (ci := 9) (v := .int 11) (ty := tyX9 1) (C := RX9) (T := TX9) (N := 6) hx hb hts inB_9 tyX9 tyX9_ok nmX9 hown hE.1 hP hD hS 0 rfl rfl 1 (by decide) (hts _ k_137) (fun _ h9 => h9) rfl (tyX9_ok 1 (by decide)) rfl rfl (Nat.le_of_ble_eq_true rfl) dX9_append_37 (fun H locs hP hD hS => ?_)
  have hP : va_P (dC, dI) vwCl [(h0, .inr (9, [.ref h1, .int 11, .int 0, .int 0, .int 0, .int 0])), (h1, .inl (cy 0, 1600, .inl (upd (upd (upd f0 8 (vp_nar .byte t2)) 9 (vp_nar .byte t4)) 10 (vp_nar .byte t6))))] H := hP
  have hD : va_D A [(h0, .inr (9, [.ref h1, .int 11, .int 0, .int 0, .int 0, .int 0])), (h1, .inl (cy 0, 1600, .inl (upd (upd (upd f0 8 (vp_nar .byte t2)) 9 (vp_nar .byte t4)) 10 (vp_nar .byte t6))))] := hD
  refine lv_iinc (v := 0) (lv' := [(2, .int 0), (0, .ref h0), (1, .int p1)]) hx hb dX9_append_40 hl (k := 0) rfl (by decide) (by decide) rfl (fun ls hl => ?_)
  refine lv_goto (tgt := 3) hx hb dX9_append_43 (by decide) ?_
  refine lv_iload_n hx hb dX9_append_3 rfl (lv_at hl 0 rfl) ?_
  refine lv_if_lt (tgt := 46) hx hb dX9_append_4 (by decide) (fun c0 => absurd c0 (by decide)) (fun _ => ?_)
  refine lv_aload_n hx hb dX9_append_7 rfl (lv_at hl 1 rfl) ?_
  refine va_get (D := (dC, dI)) (ci := 9) (v := .int 11) (C := RX9) (T := TX9) (N := 6) hx hb hts inB_9 hown hE.1 hP 0 rfl rfl 1 (by decide) (hts _ k_137) (fun _ h9 => h9) rfl dX9_append_8 ?_
  refine lv_sipush (v := 1600) hx hb dX9_append_11 (by decide) ?_
  refine lv_icmp_ge (tgt := 46) hx hb dX9_append_14 (by decide) (fun c0 => absurd c0 (by decide)) (fun _ => ?_)
  refine lv_aload_n hx hb dX9_append_17 rfl (lv_at hl 1 rfl) ?_
  refine va_get (D := (dC, dI)) (ci := 9) (v := .ref h1) (C := RX9) (T := TX9) (N := 6) hx hb hts inB_9 hown hE.1 hP 0 rfl rfl 0 (by decide) (hts _ k_136) (fun _ h9 => h9) rfl dX9_append_18 ?_
  refine lv_aload_n hx hb dX9_append_21 rfl (lv_at hl 1 rfl) ?_
  refine va_get (D := (dC, dI)) (ci := 9) (v := .int 11) (C := RX9) (T := TX9) (N := 6) hx hb hts inB_9 hown hE.1 hP 0 rfl rfl 1 (by decide) (hts _ k_137) (fun _ h9 => h9) rfl dX9_append_22 ?_
  refine lv_iload_n hx hb dX9_append_25 rfl (lv_at hl 2 rfl) ?_
  refine lv_iload_n hx hb dX9_append_26 rfl (lv_at hl 0 rfl) ?_
  refine lv_ishr hx hb dX9_append_27 ?_
  refine lv_topi (fun t7 et7 => ?_)
  refine lv_i2b hx hb dX9_append_28 rfl ?_
  refine lv_topi (fun t8 et8 => ?_)
  refine stB (k := 11) hx hb hE hP hD hS 1 rfl (vp_in_nI (n := 11) (by decide) (by decide)) (nI_clamp (n := 11) (by decide)) dX9_append_29 (fun H locs hP hD hS => ?_)
  have hP : va_P (dC, dI) vwCl [(h0, .inr (9, [.ref h1, .int 11, .int 0, .int 0, .int 0, .int 0])), (h1, .inl (cy 0, 1600, .inl (upd (upd (upd (upd f0 8 (vp_nar .byte t2)) 9 (vp_nar .byte t4)) 10 (vp_nar .byte t6)) 11 (vp_nar .byte t8))))] H := hP
  have hD : va_D A [(h0, .inr (9, [.ref h1, .int 11, .int 0, .int 0, .int 0, .int 0])), (h1, .inl (cy 0, 1600, .inl (upd (upd (upd (upd f0 8 (vp_nar .byte t2)) 9 (vp_nar .byte t4)) 10 (vp_nar .byte t6)) 11 (vp_nar .byte t8))))] := hD
  refine lv_aload_n hx hb dX9_append_30 rfl (lv_at hl 1 rfl) ?_
  refine lv_dup hx hb dX9_append_31 rfl ?_
  refine va_get (D := (dC, dI)) (ci := 9) (v := .int 11) (C := RX9) (T := TX9) (N := 6) hx hb hts inB_9 hown hE.1 hP 0 rfl rfl 1 (by decide) (hts _ k_137) (fun _ h9 => h9) rfl dX9_append_32 ?_
  refine lv_iconst (v := 1) hx hb dX9_append_35 (by decide) ?_
  refine lv_iadd hx hb dX9_append_36 ?_
  refine tI (y := 12) (by decide) ?_
  refine va_put (D := (dC, dI)) (ci := 9) (v := .int 12) (ty := tyX9 1) (C := RX9) (T := TX9) (N := 6) hx hb hts inB_9 tyX9 tyX9_ok nmX9 hown hE.1 hP hD hS 0 rfl rfl 1 (by decide) (hts _ k_137) (fun _ h9 => h9) rfl (tyX9_ok 1 (by decide)) rfl rfl (Nat.le_of_ble_eq_true rfl) dX9_append_37 (fun H locs hP hD hS => ?_)
  have hP : va_P (dC, dI) vwCl [(h0, .inr (9, [.ref h1, .int 12, .int 0, .int 0, .int 0, .int 0])), (h1, .inl (cy 0, 1600, .inl (upd (upd (upd (upd f0 8 (vp_nar .byte t2)) 9 (vp_nar .byte t4)) 10 (vp_nar .byte t6)) 11 (vp_nar .byte t8))))] H := hP
  have hD : va_D A [(h0, .inr (9, [.ref h1, .int 12, .int 0, .int 0, .int 0, .int 0])), (h1, .inl (cy 0, 1600, .inl (upd (upd (upd (upd f0 8 (vp_nar .byte t2)) 9 (vp_nar .byte t4)) 10 (vp_nar .byte t6)) 11 (vp_nar .byte t8))))] := hD
  refine lv_iinc (v := (-8)) (lv' := [(2, .int (-8)), (0, .ref h0), (1, .int p1)]) hx hb dX9_append_40 hl (k := 0) rfl (by decide) (by decide) rfl (fun ls hl => ?_)
  refine lv_goto (tgt := 3) hx hb dX9_append_43 (by decide) ?_
  refine lv_iload_n hx hb dX9_append_3 rfl (lv_at hl 0 rfl) ?_
  refine lv_if_lt (tgt := 46) hx hb dX9_append_4 (by decide) (fun _ => ?_) (fun c0 => absurd (by decide) c0)
  exact ret ((upd (upd (upd (upd f0 8 (vp_nar .byte t2)) 9 (vp_nar .byte t4)) 10 (vp_nar .byte t6)) 11 (vp_nar .byte t8))) _ _ _ _ _ _ trivial (hP.sub [0, 1] rfl) (hD.sub [0, 1] (by decide) rfl) hS dX9_append_46 (Nat.le_of_ble_eq_true rfl) (Nat.le_of_ble_eq_true rfl)
set_option maxHeartbeats 4000000 in
set_option maxRecDepth 100000 in
theorem cnX9_append_4 (l : Launch) (dC : Nat → ClassId) (dI : Nat → Nat → Nat) (cy : Nat → ClassId) (h0 : Nat) (h1 : Nat) (f0 : Nat → Int32) (p1 : Int32) : ctV l (dC, dI) cy yX9_append cX9_append 3 1 60 0 0 ((Nat → Int32)) [.ref h0, .int p1] [(h0, .inr (9, [.ref h1, .int 12, .int 0, .int 0, .int 0, .int 0])), (h1, .inl (cy 0, 1600, .inl f0))] (fun _ => True) (fun u => [(h0, .inr (9, [.ref h1, .int 16, .int 0, .int 0, .int 0, .int 0])), (h1, .inl (cy 0, 1600, .inl u))]) := by
  refine ctV_of (by decide) (Nat.le_of_ble_eq_true rfl) (fun p e s m below meth c A ls Q hx hb hml hts hown hnm hE hP hD hA hl ret => ?_)
  have hown : s.vm.findClass RX9 = some m.cls := hown
  have hS : va_S A s.heap s.heap [] := va_S.rf
  have hl : lv_has ls 3 [(0, .ref h0), (1, .int p1)] := hl
  refine lv_bipush (v := 24) hx hb dX9_append_0 (by decide) ?_
  refine lv_istore_n (lv' := [(2, .int 24), (0, .ref h0), (1, .int p1)]) hx hb dX9_append_2 rfl hl (by decide) rfl (fun ls hl => ?_)
  refine lv_iload_n hx hb dX9_append_3 rfl (lv_at hl 0 rfl) ?_
  refine lv_if_lt (tgt := 46) hx hb dX9_append_4 (by decide) (fun c0 => absurd c0 (by decide)) (fun _ => ?_)
  refine lv_aload_n hx hb dX9_append_7 rfl (lv_at hl 1 rfl) ?_
  refine va_get (D := (dC, dI)) (ci := 9) (v := .int 12) (C := RX9) (T := TX9) (N := 6) hx hb hts inB_9 hown hE.1 hP 0 rfl rfl 1 (by decide) (hts _ k_137) (fun _ h9 => h9) rfl dX9_append_8 ?_
  refine lv_sipush (v := 1600) hx hb dX9_append_11 (by decide) ?_
  refine lv_icmp_ge (tgt := 46) hx hb dX9_append_14 (by decide) (fun c0 => absurd c0 (by decide)) (fun _ => ?_)
  refine lv_aload_n hx hb dX9_append_17 rfl (lv_at hl 1 rfl) ?_
  refine va_get (D := (dC, dI)) (ci := 9) (v := .ref h1) (C := RX9) (T := TX9) (N := 6) hx hb hts inB_9 hown hE.1 hP 0 rfl rfl 0 (by decide) (hts _ k_136) (fun _ h9 => h9) rfl dX9_append_18 ?_
  refine lv_aload_n hx hb dX9_append_21 rfl (lv_at hl 1 rfl) ?_
  refine va_get (D := (dC, dI)) (ci := 9) (v := .int 12) (C := RX9) (T := TX9) (N := 6) hx hb hts inB_9 hown hE.1 hP 0 rfl rfl 1 (by decide) (hts _ k_137) (fun _ h9 => h9) rfl dX9_append_22 ?_
  refine lv_iload_n hx hb dX9_append_25 rfl (lv_at hl 2 rfl) ?_
  refine lv_iload_n hx hb dX9_append_26 rfl (lv_at hl 0 rfl) ?_
  refine lv_ishr hx hb dX9_append_27 ?_
  refine lv_topi (fun t1 et1 => ?_)
  refine lv_i2b hx hb dX9_append_28 rfl ?_
  refine lv_topi (fun t2 et2 => ?_)
  refine stB (k := 12) hx hb hE hP hD hS 1 rfl (vp_in_nI (n := 12) (by decide) (by decide)) (nI_clamp (n := 12) (by decide)) dX9_append_29 (fun H locs hP hD hS => ?_)
  have hP : va_P (dC, dI) vwCl [(h0, .inr (9, [.ref h1, .int 12, .int 0, .int 0, .int 0, .int 0])), (h1, .inl (cy 0, 1600, .inl (upd f0 12 (vp_nar .byte t2))))] H := hP
  have hD : va_D A [(h0, .inr (9, [.ref h1, .int 12, .int 0, .int 0, .int 0, .int 0])), (h1, .inl (cy 0, 1600, .inl (upd f0 12 (vp_nar .byte t2))))] := hD
  refine lv_aload_n hx hb dX9_append_30 rfl (lv_at hl 1 rfl) ?_
  refine lv_dup hx hb dX9_append_31 rfl ?_
  refine va_get (D := (dC, dI)) (ci := 9) (v := .int 12) (C := RX9) (T := TX9) (N := 6) hx hb hts inB_9 hown hE.1 hP 0 rfl rfl 1 (by decide) (hts _ k_137) (fun _ h9 => h9) rfl dX9_append_32 ?_
  refine lv_iconst (v := 1) hx hb dX9_append_35 (by decide) ?_
  refine lv_iadd hx hb dX9_append_36 ?_
  refine tI (y := 13) (by decide) ?_
  refine va_put (D := (dC, dI)) (ci := 9) (v := .int 13) (ty := tyX9 1) (C := RX9) (T := TX9) (N := 6) hx hb hts inB_9 tyX9 tyX9_ok nmX9 hown hE.1 hP hD hS 0 rfl rfl 1 (by decide) (hts _ k_137) (fun _ h9 => h9) rfl (tyX9_ok 1 (by decide)) rfl rfl (Nat.le_of_ble_eq_true rfl) dX9_append_37 (fun H locs hP hD hS => ?_)
  have hP : va_P (dC, dI) vwCl [(h0, .inr (9, [.ref h1, .int 13, .int 0, .int 0, .int 0, .int 0])), (h1, .inl (cy 0, 1600, .inl (upd f0 12 (vp_nar .byte t2))))] H := hP
  have hD : va_D A [(h0, .inr (9, [.ref h1, .int 13, .int 0, .int 0, .int 0, .int 0])), (h1, .inl (cy 0, 1600, .inl (upd f0 12 (vp_nar .byte t2))))] := hD
  refine lv_iinc (v := 16) (lv' := [(2, .int 16), (0, .ref h0), (1, .int p1)]) hx hb dX9_append_40 hl (k := 0) rfl (by decide) (by decide) rfl (fun ls hl => ?_)
  refine lv_goto (tgt := 3) hx hb dX9_append_43 (by decide) ?_
  refine lv_iload_n hx hb dX9_append_3 rfl (lv_at hl 0 rfl) ?_
  refine lv_if_lt (tgt := 46) hx hb dX9_append_4 (by decide) (fun c0 => absurd c0 (by decide)) (fun _ => ?_)
  refine lv_aload_n hx hb dX9_append_7 rfl (lv_at hl 1 rfl) ?_
  refine va_get (D := (dC, dI)) (ci := 9) (v := .int 13) (C := RX9) (T := TX9) (N := 6) hx hb hts inB_9 hown hE.1 hP 0 rfl rfl 1 (by decide) (hts _ k_137) (fun _ h9 => h9) rfl dX9_append_8 ?_
  refine lv_sipush (v := 1600) hx hb dX9_append_11 (by decide) ?_
  refine lv_icmp_ge (tgt := 46) hx hb dX9_append_14 (by decide) (fun c0 => absurd c0 (by decide)) (fun _ => ?_)
  refine lv_aload_n hx hb dX9_append_17 rfl (lv_at hl 1 rfl) ?_
  refine va_get (D := (dC, dI)) (ci := 9) (v := .ref h1) (C := RX9) (T := TX9) (N := 6) hx hb hts inB_9 hown hE.1 hP 0 rfl rfl 0 (by decide) (hts _ k_136) (fun _ h9 => h9) rfl dX9_append_18 ?_
  refine lv_aload_n hx hb dX9_append_21 rfl (lv_at hl 1 rfl) ?_
  refine va_get (D := (dC, dI)) (ci := 9) (v := .int 13) (C := RX9) (T := TX9) (N := 6) hx hb hts inB_9 hown hE.1 hP 0 rfl rfl 1 (by decide) (hts _ k_137) (fun _ h9 => h9) rfl dX9_append_22 ?_
  refine lv_iload_n hx hb dX9_append_25 rfl (lv_at hl 2 rfl) ?_
  refine lv_iload_n hx hb dX9_append_26 rfl (lv_at hl 0 rfl) ?_
  refine lv_ishr hx hb dX9_append_27 ?_
  refine lv_topi (fun t3 et3 => ?_)
  refine lv_i2b hx hb dX9_append_28 rfl ?_
  refine lv_topi (fun t4 et4 => ?_)
  refine stB (k := 13) hx hb hE hP hD hS 1 rfl (vp_in_nI (n := 13) (by decide) (by decide)) (nI_clamp (n := 13) (by decide)) dX9_append_29 (fun H locs hP hD hS => ?_)
  have hP : va_P (dC, dI) vwCl [(h0, .inr (9, [.ref h1, .int 13, .int 0, .int 0, .int 0, .int 0])), (h1, .inl (cy 0, 1600, .inl (upd (upd f0 12 (vp_nar .byte t2)) 13 (vp_nar .byte t4))))] H := hP
  have hD : va_D A [(h0, .inr (9, [.ref h1, .int 13, .int 0, .int 0, .int 0, .int 0])), (h1, .inl (cy 0, 1600, .inl (upd (upd f0 12 (vp_nar .byte t2)) 13 (vp_nar .byte t4))))] := hD
  refine lv_aload_n hx hb dX9_append_30 rfl (lv_at hl 1 rfl) ?_
  refine lv_dup hx hb dX9_append_31 rfl ?_
  refine va_get (D := (dC, dI)) (ci := 9) (v := .int 13) (C := RX9) (T := TX9) (N := 6) hx hb hts inB_9 hown hE.1 hP 0 rfl rfl 1 (by decide) (hts _ k_137) (fun _ h9 => h9) rfl dX9_append_32 ?_
  refine lv_iconst (v := 1) hx hb dX9_append_35 (by decide) ?_
  refine lv_iadd hx hb dX9_append_36 ?_
  refine tI (y := 14) (by decide) ?_
  refine va_put (D := (dC, dI)) (ci := 9) (v := .int 14) (ty := tyX9 1) (C := RX9) (T := TX9) (N := 6) hx hb hts inB_9 tyX9 tyX9_ok nmX9 hown hE.1 hP hD hS 0 rfl rfl 1 (by decide) (hts _ k_137) (fun _ h9 => h9) rfl (tyX9_ok 1 (by decide)) rfl rfl (Nat.le_of_ble_eq_true rfl) dX9_append_37 (fun H locs hP hD hS => ?_)
  have hP : va_P (dC, dI) vwCl [(h0, .inr (9, [.ref h1, .int 14, .int 0, .int 0, .int 0, .int 0])), (h1, .inl (cy 0, 1600, .inl (upd (upd f0 12 (vp_nar .byte t2)) 13 (vp_nar .byte t4))))] H := hP
  have hD : va_D A [(h0, .inr (9, [.ref h1, .int 14, .int 0, .int 0, .int 0, .int 0])), (h1, .inl (cy 0, 1600, .inl (upd (upd f0 12 (vp_nar .byte t2)) 13 (vp_nar .byte t4))))] := hD
  refine lv_iinc (v := 8) (lv' := [(2, .int 8), (0, .ref h0), (1, .int p1)]) hx hb dX9_append_40 hl (k := 0) rfl (by decide) (by decide) rfl (fun ls hl => ?_)
  refine lv_goto (tgt := 3) hx hb dX9_append_43 (by decide) ?_
  refine lv_iload_n hx hb dX9_append_3 rfl (lv_at hl 0 rfl) ?_
  refine lv_if_lt (tgt := 46) hx hb dX9_append_4 (by decide) (fun c0 => absurd c0 (by decide)) (fun _ => ?_)
  refine lv_aload_n hx hb dX9_append_7 rfl (lv_at hl 1 rfl) ?_
  refine va_get (D := (dC, dI)) (ci := 9) (v := .int 14) (C := RX9) (T := TX9) (N := 6) hx hb hts inB_9 hown hE.1 hP 0 rfl rfl 1 (by decide) (hts _ k_137) (fun _ h9 => h9) rfl dX9_append_8 ?_
  refine lv_sipush (v := 1600) hx hb dX9_append_11 (by decide) ?_
  refine lv_icmp_ge (tgt := 46) hx hb dX9_append_14 (by decide) (fun c0 => absurd c0 (by decide)) (fun _ => ?_)
  refine lv_aload_n hx hb dX9_append_17 rfl (lv_at hl 1 rfl) ?_
  refine va_get (D := (dC, dI)) (ci := 9) (v := .ref h1) (C := RX9) (T := TX9) (N := 6) hx hb hts inB_9 hown hE.1 hP 0 rfl rfl 0 (by decide) (hts _ k_136) (fun _ h9 => h9) rfl dX9_append_18 ?_
  refine lv_aload_n hx hb dX9_append_21 rfl (lv_at hl 1 rfl) ?_
  refine va_get (D := (dC, dI)) (ci := 9) (v := .int 14) (C := RX9) (T := TX9) (N := 6) hx hb hts inB_9 hown hE.1 hP 0 rfl rfl 1 (by decide) (hts _ k_137) (fun _ h9 => h9) rfl dX9_append_22 ?_
  refine lv_iload_n hx hb dX9_append_25 rfl (lv_at hl 2 rfl) ?_
  refine lv_iload_n hx hb dX9_append_26 rfl (lv_at hl 0 rfl) ?_
  refine lv_ishr hx hb dX9_append_27 ?_
  refine lv_topi (fun t5 et5 => ?_)
  refine lv_i2b hx hb dX9_append_28 rfl ?_
  refine lv_topi (fun t6 et6 => ?_)
  refine stB (k := 14) hx hb hE hP hD hS 1 rfl (vp_in_nI (n := 14) (by decide) (by decide)) (nI_clamp (n := 14) (by decide)) dX9_append_29 (fun H locs hP hD hS => ?_)
  have hP : va_P (dC, dI) vwCl [(h0, .inr (9, [.ref h1, .int 14, .int 0, .int 0, .int 0, .int 0])), (h1, .inl (cy 0, 1600, .inl (upd (upd (upd f0 12 (vp_nar .byte t2)) 13 (vp_nar .byte t4)) 14 (vp_nar .byte t6))))] H := hP
  have hD : va_D A [(h0, .inr (9, [.ref h1, .int 14, .int 0, .int 0, .int 0, .int 0])), (h1, .inl (cy 0, 1600, .inl (upd (upd (upd f0 12 (vp_nar .byte t2)) 13 (vp_nar .byte t4)) 14 (vp_nar .byte t6))))] := hD
  refine lv_aload_n hx hb dX9_append_30 rfl (lv_at hl 1 rfl) ?_
  refine lv_dup hx hb dX9_append_31 rfl ?_
  refine va_get (D := (dC, dI)) (ci := 9) (v := .int 14) (C := RX9) (T := TX9) (N := 6) hx hb hts inB_9 hown hE.1 hP 0 rfl rfl 1 (by decide) (hts _ k_137) (fun _ h9 => h9) rfl dX9_append_32 ?_
  refine lv_iconst (v := 1) hx hb dX9_append_35 (by decide) ?_
  refine lv_iadd hx hb dX9_append_36 ?_
  refine tI (y := 15) (by decide) ?_
  refine va_put (D := (dC, dI)) (ci := 9) (v := .int 15) (ty := tyX9 1) (C := RX9) (T := TX9) (N := 6) hx hb hts inB_9 tyX9 tyX9_ok nmX9 hown hE.1 hP hD hS 0 rfl rfl 1 (by decide) (hts _ k_137) (fun _ h9 => h9) rfl (tyX9_ok 1 (by decide)) rfl rfl (Nat.le_of_ble_eq_true rfl) dX9_append_37 (fun H locs hP hD hS => ?_)
  have hP : va_P (dC, dI) vwCl [(h0, .inr (9, [.ref h1, .int 15, .int 0, .int 0, .int 0, .int 0])), (h1, .inl (cy 0, 1600, .inl (upd (upd (upd f0 12 (vp_nar .byte t2)) 13 (vp_nar .byte t4)) 14 (vp_nar .byte t6))))] H := hP
  have hD : va_D A [(h0, .inr (9, [.ref h1, .int 15, .int 0, .int 0, .int 0, .int 0])), (h1, .inl (cy 0, 1600, .inl (upd (upd (upd f0 12 (vp_nar .byte t2)) 13 (vp_nar .byte t4)) 14 (vp_nar .byte t6))))] := hD
  refine lv_iinc (v := 0) (lv' := [(2, .int 0), (0, .ref h0), (1, .int p1)]) hx hb dX9_append_40 hl (k := 0) rfl (by decide) (by decide) rfl (fun ls hl => ?_)
  refine lv_goto (tgt := 3) hx hb dX9_append_43 (by decide) ?_
  refine lv_iload_n hx hb dX9_append_3 rfl (lv_at hl 0 rfl) ?_
  refine lv_if_lt (tgt := 46) hx hb dX9_append_4 (by decide) (fun c0 => absurd c0 (by decide)) (fun _ => ?_)
  refine lv_aload_n hx hb dX9_append_7 rfl (lv_at hl 1 rfl) ?_
  refine va_get (D := (dC, dI)) (ci := 9) (v := .int 15) (C := RX9) (T := TX9) (N := 6) hx hb hts inB_9 hown hE.1 hP 0 rfl rfl 1 (by decide) (hts _ k_137) (fun _ h9 => h9) rfl dX9_append_8 ?_
  refine lv_sipush (v := 1600) hx hb dX9_append_11 (by decide) ?_
  refine lv_icmp_ge (tgt := 46) hx hb dX9_append_14 (by decide) (fun c0 => absurd c0 (by decide)) (fun _ => ?_)
  refine lv_aload_n hx hb dX9_append_17 rfl (lv_at hl 1 rfl) ?_
  refine va_get (D := (dC, dI)) (ci := 9) (v := .ref h1) (C := RX9) (T := TX9) (N := 6) hx hb hts inB_9 hown hE.1 hP 0 rfl rfl 0 (by decide) (hts _ k_136) (fun _ h9 => h9) rfl dX9_append_18 ?_
  refine lv_aload_n hx hb dX9_append_21 rfl (lv_at hl 1 rfl) ?_
  refine va_get (D := (dC, dI)) (ci := 9) (v := .int 15) (C := RX9) (T := TX9) (N := 6) hx hb hts inB_9 hown hE.1 hP 0 rfl rfl 1 (by decide) (hts _ k_137) (fun _ h9 => h9) rfl dX9_append_22 ?_
  refine lv_iload_n hx hb dX9_append_25 rfl (lv_at hl 2 rfl) ?_
  refine lv_iload_n hx hb dX9_append_26 rfl (lv_at hl 0 rfl) ?_
  refine lv_ishr hx hb dX9_append_27 ?_
  refine lv_topi (fun t7 et7 => ?_)
  refine lv_i2b hx hb dX9_append_28 rfl ?_
  refine lv_topi (fun t8 et8 => ?_)
  refine stB (k := 15) hx hb hE hP hD hS 1 rfl (vp_in_nI (n := 15) (by decide) (by decide)) (nI_clamp (n := 15) (by decide)) dX9_append_29 (fun H locs hP hD hS => ?_)
  have hP : va_P (dC, dI) vwCl [(h0, .inr (9, [.ref h1, .int 15, .int 0, .int 0, .int 0, .int 0])), (h1, .inl (cy 0, 1600, .inl (upd (upd (upd (upd f0 12 (vp_nar .byte t2)) 13 (vp_nar .byte t4)) 14 (vp_nar .byte t6)) 15 (vp_nar .byte t8))))] H := hP
  have hD : va_D A [(h0, .inr (9, [.ref h1, .int 15, .int 0, .int 0, .int 0, .int 0])), (h1, .inl (cy 0, 1600, .inl (upd (upd (upd (upd f0 12 (vp_nar .byte t2)) 13 (vp_nar .byte t4)) 14 (vp_nar .byte t6)) 15 (vp_nar .byte t8))))] := hD
  refine lv_aload_n hx hb dX9_append_30 rfl (lv_at hl 1 rfl) ?_
  refine lv_dup hx hb dX9_append_31 rfl ?_
  refine va_get (D := (dC, dI)) (ci := 9) (v := .int 15) (C := RX9) (T := TX9) (N := 6) hx hb hts inB_9 hown hE.1 hP 0 rfl rfl 1 (by decide) (hts _ k_137) (fun _ h9 => h9) rfl dX9_append_32 ?_
  refine lv_iconst (v := 1) hx hb dX9_append_35 (by decide) ?_
  refine lv_iadd hx hb dX9_append_36 ?_
  refine tI (y := 16) (by decide) ?_
  refine va_put (D := (dC, dI)) (ci := 9) (v := .int 16) (ty := tyX9 1) (C := RX9) (T := TX9) (N := 6) hx hb hts inB_9 tyX9 tyX9_ok nmX9 hown hE.1 hP hD hS 0 rfl rfl 1 (by decide) (hts _ k_137) (fun _ h9 => h9) rfl (tyX9_ok 1 (by decide)) rfl rfl (Nat.le_of_ble_eq_true rfl) dX9_append_37 (fun H locs hP hD hS => ?_)
  have hP : va_P (dC, dI) vwCl [(h0, .inr (9, [.ref h1, .int 16, .int 0, .int 0, .int 0, .int 0])), (h1, .inl (cy 0, 1600, .inl (upd (upd (upd (upd f0 12 (vp_nar .byte t2)) 13 (vp_nar .byte t4)) 14 (vp_nar .byte t6)) 15 (vp_nar .byte t8))))] H := hP
  have hD : va_D A [(h0, .inr (9, [.ref h1, .int 16, .int 0, .int 0, .int 0, .int 0])), (h1, .inl (cy 0, 1600, .inl (upd (upd (upd (upd f0 12 (vp_nar .byte t2)) 13 (vp_nar .byte t4)) 14 (vp_nar .byte t6)) 15 (vp_nar .byte t8))))] := hD
  refine lv_iinc (v := (-8)) (lv' := [(2, .int (-8)), (0, .ref h0), (1, .int p1)]) hx hb dX9_append_40 hl (k := 0) rfl (by decide) (by decide) rfl (fun ls hl => ?_)
  refine lv_goto (tgt := 3) hx hb dX9_append_43 (by decide) ?_
  refine lv_iload_n hx hb dX9_append_3 rfl (lv_at hl 0 rfl) ?_
  refine lv_if_lt (tgt := 46) hx hb dX9_append_4 (by decide) (fun _ => ?_) (fun c0 => absurd (by decide) c0)
  exact ret ((upd (upd (upd (upd f0 12 (vp_nar .byte t2)) 13 (vp_nar .byte t4)) 14 (vp_nar .byte t6)) 15 (vp_nar .byte t8))) _ _ _ _ _ _ trivial (hP.sub [0, 1] rfl) (hD.sub [0, 1] (by decide) rfl) hS dX9_append_46 (Nat.le_of_ble_eq_true rfl) (Nat.le_of_ble_eq_true rfl)
set_option maxHeartbeats 4000000 in
set_option maxRecDepth 100000 in
theorem cnX9_append_5 (l : Launch) (dC : Nat → ClassId) (dI : Nat → Nat → Nat) (cy : Nat → ClassId) (h0 : Nat) (h1 : Nat) (f0 : Nat → Int32) (p1 : Int32) : ctV l (dC, dI) cy yX9_append cX9_append 3 1 60 0 0 ((Nat → Int32)) [.ref h0, .int p1] [(h0, .inr (9, [.ref h1, .int 16, .int 0, .int 0, .int 0, .int 0])), (h1, .inl (cy 0, 1600, .inl f0))] (fun _ => True) (fun u => [(h0, .inr (9, [.ref h1, .int 20, .int 0, .int 0, .int 0, .int 0])), (h1, .inl (cy 0, 1600, .inl u))]) := by
  refine ctV_of (by decide) (Nat.le_of_ble_eq_true rfl) (fun p e s m below meth c A ls Q hx hb hml hts hown hnm hE hP hD hA hl ret => ?_)
  have hown : s.vm.findClass RX9 = some m.cls := hown
  have hS : va_S A s.heap s.heap [] := va_S.rf
  have hl : lv_has ls 3 [(0, .ref h0), (1, .int p1)] := hl
  refine lv_bipush (v := 24) hx hb dX9_append_0 (by decide) ?_
  refine lv_istore_n (lv' := [(2, .int 24), (0, .ref h0), (1, .int p1)]) hx hb dX9_append_2 rfl hl (by decide) rfl (fun ls hl => ?_)
  refine lv_iload_n hx hb dX9_append_3 rfl (lv_at hl 0 rfl) ?_
  refine lv_if_lt (tgt := 46) hx hb dX9_append_4 (by decide) (fun c0 => absurd c0 (by decide)) (fun _ => ?_)
  refine lv_aload_n hx hb dX9_append_7 rfl (lv_at hl 1 rfl) ?_
  refine va_get (D := (dC, dI)) (ci := 9) (v := .int 16) (C := RX9) (T := TX9) (N := 6) hx hb hts inB_9 hown hE.1 hP 0 rfl rfl 1 (by decide) (hts _ k_137) (fun _ h9 => h9) rfl dX9_append_8 ?_
  refine lv_sipush (v := 1600) hx hb dX9_append_11 (by decide) ?_
  refine lv_icmp_ge (tgt := 46) hx hb dX9_append_14 (by decide) (fun c0 => absurd c0 (by decide)) (fun _ => ?_)
  refine lv_aload_n hx hb dX9_append_17 rfl (lv_at hl 1 rfl) ?_
  refine va_get (D := (dC, dI)) (ci := 9) (v := .ref h1) (C := RX9) (T := TX9) (N := 6) hx hb hts inB_9 hown hE.1 hP 0 rfl rfl 0 (by decide) (hts _ k_136) (fun _ h9 => h9) rfl dX9_append_18 ?_
  refine lv_aload_n hx hb dX9_append_21 rfl (lv_at hl 1 rfl) ?_
  refine va_get (D := (dC, dI)) (ci := 9) (v := .int 16) (C := RX9) (T := TX9) (N := 6) hx hb hts inB_9 hown hE.1 hP 0 rfl rfl 1 (by decide) (hts _ k_137) (fun _ h9 => h9) rfl dX9_append_22 ?_
  refine lv_iload_n hx hb dX9_append_25 rfl (lv_at hl 2 rfl) ?_
  refine lv_iload_n hx hb dX9_append_26 rfl (lv_at hl 0 rfl) ?_
  refine lv_ishr hx hb dX9_append_27 ?_
  refine lv_topi (fun t1 et1 => ?_)
  refine lv_i2b hx hb dX9_append_28 rfl ?_
  refine lv_topi (fun t2 et2 => ?_)
  refine stB (k := 16) hx hb hE hP hD hS 1 rfl (vp_in_nI (n := 16) (by decide) (by decide)) (nI_clamp (n := 16) (by decide)) dX9_append_29 (fun H locs hP hD hS => ?_)
  have hP : va_P (dC, dI) vwCl [(h0, .inr (9, [.ref h1, .int 16, .int 0, .int 0, .int 0, .int 0])), (h1, .inl (cy 0, 1600, .inl (upd f0 16 (vp_nar .byte t2))))] H := hP
  have hD : va_D A [(h0, .inr (9, [.ref h1, .int 16, .int 0, .int 0, .int 0, .int 0])), (h1, .inl (cy 0, 1600, .inl (upd f0 16 (vp_nar .byte t2))))] := hD
  refine lv_aload_n hx hb dX9_append_30 rfl (lv_at hl 1 rfl) ?_
  refine lv_dup hx hb dX9_append_31 rfl ?_
  refine va_get (D := (dC, dI)) (ci := 9) (v := .int 16) (C := RX9) (T := TX9) (N := 6) hx hb hts inB_9 hown hE.1 hP 0 rfl rfl 1 (by decide) (hts _ k_137) (fun _ h9 => h9) rfl dX9_append_32 ?_
  refine lv_iconst (v := 1) hx hb dX9_append_35 (by decide) ?_
  refine lv_iadd hx hb dX9_append_36 ?_
  refine tI (y := 17) (by decide) ?_
  refine va_put (D := (dC, dI)) (ci := 9) (v := .int 17) (ty := tyX9 1) (C := RX9) (T := TX9) (N := 6) hx hb hts inB_9 tyX9 tyX9_ok nmX9 hown hE.1 hP hD hS 0 rfl rfl 1 (by decide) (hts _ k_137) (fun _ h9 => h9) rfl (tyX9_ok 1 (by decide)) rfl rfl (Nat.le_of_ble_eq_true rfl) dX9_append_37 (fun H locs hP hD hS => ?_)
  have hP : va_P (dC, dI) vwCl [(h0, .inr (9, [.ref h1, .int 17, .int 0, .int 0, .int 0, .int 0])), (h1, .inl (cy 0, 1600, .inl (upd f0 16 (vp_nar .byte t2))))] H := hP
  have hD : va_D A [(h0, .inr (9, [.ref h1, .int 17, .int 0, .int 0, .int 0, .int 0])), (h1, .inl (cy 0, 1600, .inl (upd f0 16 (vp_nar .byte t2))))] := hD
  refine lv_iinc (v := 16) (lv' := [(2, .int 16), (0, .ref h0), (1, .int p1)]) hx hb dX9_append_40 hl (k := 0) rfl (by decide) (by decide) rfl (fun ls hl => ?_)
  refine lv_goto (tgt := 3) hx hb dX9_append_43 (by decide) ?_
  refine lv_iload_n hx hb dX9_append_3 rfl (lv_at hl 0 rfl) ?_
  refine lv_if_lt (tgt := 46) hx hb dX9_append_4 (by decide) (fun c0 => absurd c0 (by decide)) (fun _ => ?_)
  refine lv_aload_n hx hb dX9_append_7 rfl (lv_at hl 1 rfl) ?_
  refine va_get (D := (dC, dI)) (ci := 9) (v := .int 17) (C := RX9) (T := TX9) (N := 6) hx hb hts inB_9 hown hE.1 hP 0 rfl rfl 1 (by decide) (hts _ k_137) (fun _ h9 => h9) rfl dX9_append_8 ?_
  refine lv_sipush (v := 1600) hx hb dX9_append_11 (by decide) ?_
  refine lv_icmp_ge (tgt := 46) hx hb dX9_append_14 (by decide) (fun c0 => absurd c0 (by decide)) (fun _ => ?_)
  refine lv_aload_n hx hb dX9_append_17 rfl (lv_at hl 1 rfl) ?_
  refine va_get (D := (dC, dI)) (ci := 9) (v := .ref h1) (C := RX9) (T := TX9) (N := 6) hx hb hts inB_9 hown hE.1 hP 0 rfl rfl 0 (by decide) (hts _ k_136) (fun _ h9 => h9) rfl dX9_append_18 ?_
  refine lv_aload_n hx hb dX9_append_21 rfl (lv_at hl 1 rfl) ?_
  refine va_get (D := (dC, dI)) (ci := 9) (v := .int 17) (C := RX9) (T := TX9) (N := 6) hx hb hts inB_9 hown hE.1 hP 0 rfl rfl 1 (by decide) (hts _ k_137) (fun _ h9 => h9) rfl dX9_append_22 ?_
  refine lv_iload_n hx hb dX9_append_25 rfl (lv_at hl 2 rfl) ?_
  refine lv_iload_n hx hb dX9_append_26 rfl (lv_at hl 0 rfl) ?_
  refine lv_ishr hx hb dX9_append_27 ?_
  refine lv_topi (fun t3 et3 => ?_)
  refine lv_i2b hx hb dX9_append_28 rfl ?_
  refine lv_topi (fun t4 et4 => ?_)
  refine stB (k := 17) hx hb hE hP hD hS 1 rfl (vp_in_nI (n := 17) (by decide) (by decide)) (nI_clamp (n := 17) (by decide)) dX9_append_29 (fun H locs hP hD hS => ?_)
  have hP : va_P (dC, dI) vwCl [(h0, .inr (9, [.ref h1, .int 17, .int 0, .int 0, .int 0, .int 0])), (h1, .inl (cy 0, 1600, .inl (upd (upd f0 16 (vp_nar .byte t2)) 17 (vp_nar .byte t4))))] H := hP
  have hD : va_D A [(h0, .inr (9, [.ref h1, .int 17, .int 0, .int 0, .int 0, .int 0])), (h1, .inl (cy 0, 1600, .inl (upd (upd f0 16 (vp_nar .byte t2)) 17 (vp_nar .byte t4))))] := hD
  refine lv_aload_n hx hb dX9_append_30 rfl (lv_at hl 1 rfl) ?_
  refine lv_dup hx hb dX9_append_31 rfl ?_
  refine va_get (D := (dC, dI)) (ci := 9) (v := .int 17) (C := RX9) (T := TX9) (N := 6) hx hb hts inB_9 hown hE.1 hP 0 rfl rfl 1 (by decide) (hts _ k_137) (fun _ h9 => h9) rfl dX9_append_32 ?_
  refine lv_iconst (v := 1) hx hb dX9_append_35 (by decide) ?_
  refine lv_iadd hx hb dX9_append_36 ?_
  refine tI (y := 18) (by decide) ?_
  refine va_put (D := (dC, dI)) (ci := 9) (v := .int 18) (ty := tyX9 1) (C := RX9) (T := TX9) (N := 6) hx hb hts inB_9 tyX9 tyX9_ok nmX9 hown hE.1 hP hD hS 0 rfl rfl 1 (by decide) (hts _ k_137) (fun _ h9 => h9) rfl (tyX9_ok 1 (by decide)) rfl rfl (Nat.le_of_ble_eq_true rfl) dX9_append_37 (fun H locs hP hD hS => ?_)
  have hP : va_P (dC, dI) vwCl [(h0, .inr (9, [.ref h1, .int 18, .int 0, .int 0, .int 0, .int 0])), (h1, .inl (cy 0, 1600, .inl (upd (upd f0 16 (vp_nar .byte t2)) 17 (vp_nar .byte t4))))] H := hP
  have hD : va_D A [(h0, .inr (9, [.ref h1, .int 18, .int 0, .int 0, .int 0, .int 0])), (h1, .inl (cy 0, 1600, .inl (upd (upd f0 16 (vp_nar .byte t2)) 17 (vp_nar .byte t4))))] := hD
  refine lv_iinc (v := 8) (lv' := [(2, .int 8), (0, .ref h0), (1, .int p1)]) hx hb dX9_append_40 hl (k := 0) rfl (by decide) (by decide) rfl (fun ls hl => ?_)
  refine lv_goto (tgt := 3) hx hb dX9_append_43 (by decide) ?_
  refine lv_iload_n hx hb dX9_append_3 rfl (lv_at hl 0 rfl) ?_
  refine lv_if_lt (tgt := 46) hx hb dX9_append_4 (by decide) (fun c0 => absurd c0 (by decide)) (fun _ => ?_)
  refine lv_aload_n hx hb dX9_append_7 rfl (lv_at hl 1 rfl) ?_
  refine va_get (D := (dC, dI)) (ci := 9) (v := .int 18) (C := RX9) (T := TX9) (N := 6) hx hb hts inB_9 hown hE.1 hP 0 rfl rfl 1 (by decide) (hts _ k_137) (fun _ h9 => h9) rfl dX9_append_8 ?_
  refine lv_sipush (v := 1600) hx hb dX9_append_11 (by decide) ?_
  refine lv_icmp_ge (tgt := 46) hx hb dX9_append_14 (by decide) (fun c0 => absurd c0 (by decide)) (fun _ => ?_)
  refine lv_aload_n hx hb dX9_append_17 rfl (lv_at hl 1 rfl) ?_
  refine va_get (D := (dC, dI)) (ci := 9) (v := .ref h1) (C := RX9) (T := TX9) (N := 6) hx hb hts inB_9 hown hE.1 hP 0 rfl rfl 0 (by decide) (hts _ k_136) (fun _ h9 => h9) rfl dX9_append_18 ?_
  refine lv_aload_n hx hb dX9_append_21 rfl (lv_at hl 1 rfl) ?_
  refine va_get (D := (dC, dI)) (ci := 9) (v := .int 18) (C := RX9) (T := TX9) (N := 6) hx hb hts inB_9 hown hE.1 hP 0 rfl rfl 1 (by decide) (hts _ k_137) (fun _ h9 => h9) rfl dX9_append_22 ?_
  refine lv_iload_n hx hb dX9_append_25 rfl (lv_at hl 2 rfl) ?_
  refine lv_iload_n hx hb dX9_append_26 rfl (lv_at hl 0 rfl) ?_
  refine lv_ishr hx hb dX9_append_27 ?_
  refine lv_topi (fun t5 et5 => ?_)
  refine lv_i2b hx hb dX9_append_28 rfl ?_
  refine lv_topi (fun t6 et6 => ?_)
  refine stB (k := 18) hx hb hE hP hD hS 1 rfl (vp_in_nI (n := 18) (by decide) (by decide)) (nI_clamp (n := 18) (by decide)) dX9_append_29 (fun H locs hP hD hS => ?_)
  have hP : va_P (dC, dI) vwCl [(h0, .inr (9, [.ref h1, .int 18, .int 0, .int 0, .int 0, .int 0])), (h1, .inl (cy 0, 1600, .inl (upd (upd (upd f0 16 (vp_nar .byte t2)) 17 (vp_nar .byte t4)) 18 (vp_nar .byte t6))))] H := hP
  have hD : va_D A [(h0, .inr (9, [.ref h1, .int 18, .int 0, .int 0, .int 0, .int 0])), (h1, .inl (cy 0, 1600, .inl (upd (upd (upd f0 16 (vp_nar .byte t2)) 17 (vp_nar .byte t4)) 18 (vp_nar .byte t6))))] := hD
  refine lv_aload_n hx hb dX9_append_30 rfl (lv_at hl 1 rfl) ?_
  refine lv_dup hx hb dX9_append_31 rfl ?_
  refine va_get (D := (dC, dI)) (ci := 9) (v := .int 18) (C := RX9) (T := TX9) (N := 6) hx hb hts inB_9 hown hE.1 hP 0 rfl rfl 1 (by decide) (hts _ k_137) (fun _ h9 => h9) rfl dX9_append_32 ?_
  refine lv_iconst (v := 1) hx hb dX9_append_35 (by decide) ?_
  refine lv_iadd hx hb dX9_append_36 ?_
  refine tI (y := 19) (by decide) ?_
  refine va_put (D := (dC, dI)) (ci := 9) (v := .int 19) (ty := tyX9 1) (C := RX9) (T := TX9) (N := 6) hx hb hts inB_9 tyX9 tyX9_ok nmX9 hown hE.1 hP hD hS 0 rfl rfl 1 (by decide) (hts _ k_137) (fun _ h9 => h9) rfl (tyX9_ok 1 (by decide)) rfl rfl (Nat.le_of_ble_eq_true rfl) dX9_append_37 (fun H locs hP hD hS => ?_)
  have hP : va_P (dC, dI) vwCl [(h0, .inr (9, [.ref h1, .int 19, .int 0, .int 0, .int 0, .int 0])), (h1, .inl (cy 0, 1600, .inl (upd (upd (upd f0 16 (vp_nar .byte t2)) 17 (vp_nar .byte t4)) 18 (vp_nar .byte t6))))] H := hP
  have hD : va_D A [(h0, .inr (9, [.ref h1, .int 19, .int 0, .int 0, .int 0, .int 0])), (h1, .inl (cy 0, 1600, .inl (upd (upd (upd f0 16 (vp_nar .byte t2)) 17 (vp_nar .byte t4)) 18 (vp_nar .byte t6))))] := hD
  refine lv_iinc (v := 0) (lv' := [(2, .int 0), (0, .ref h0), (1, .int p1)]) hx hb dX9_append_40 hl (k := 0) rfl (by decide) (by decide) rfl (fun ls hl => ?_)
  refine lv_goto (tgt := 3) hx hb dX9_append_43 (by decide) ?_
  refine lv_iload_n hx hb dX9_append_3 rfl (lv_at hl 0 rfl) ?_
  refine lv_if_lt (tgt := 46) hx hb dX9_append_4 (by decide) (fun c0 => absurd c0 (by decide)) (fun _ => ?_)
  refine lv_aload_n hx hb dX9_append_7 rfl (lv_at hl 1 rfl) ?_
  refine va_get (D := (dC, dI)) (ci := 9) (v := .int 19) (C := RX9) (T := TX9) (N := 6) hx hb hts inB_9 hown hE.1 hP 0 rfl rfl 1 (by decide) (hts _ k_137) (fun _ h9 => h9) rfl dX9_append_8 ?_
  refine lv_sipush (v := 1600) hx hb dX9_append_11 (by decide) ?_
  refine lv_icmp_ge (tgt := 46) hx hb dX9_append_14 (by decide) (fun c0 => absurd c0 (by decide)) (fun _ => ?_)
  refine lv_aload_n hx hb dX9_append_17 rfl (lv_at hl 1 rfl) ?_
  refine va_get (D := (dC, dI)) (ci := 9) (v := .ref h1) (C := RX9) (T := TX9) (N := 6) hx hb hts inB_9 hown hE.1 hP 0 rfl rfl 0 (by decide) (hts _ k_136) (fun _ h9 => h9) rfl dX9_append_18 ?_
  refine lv_aload_n hx hb dX9_append_21 rfl (lv_at hl 1 rfl) ?_
  refine va_get (D := (dC, dI)) (ci := 9) (v := .int 19) (C := RX9) (T := TX9) (N := 6) hx hb hts inB_9 hown hE.1 hP 0 rfl rfl 1 (by decide) (hts _ k_137) (fun _ h9 => h9) rfl dX9_append_22 ?_
  refine lv_iload_n hx hb dX9_append_25 rfl (lv_at hl 2 rfl) ?_
  refine lv_iload_n hx hb dX9_append_26 rfl (lv_at hl 0 rfl) ?_
  refine lv_ishr hx hb dX9_append_27 ?_
  refine lv_topi (fun t7 et7 => ?_)
  refine lv_i2b hx hb dX9_append_28 rfl ?_
  refine lv_topi (fun t8 et8 => ?_)
  refine stB (k := 19) hx hb hE hP hD hS 1 rfl (vp_in_nI (n := 19) (by decide) (by decide)) (nI_clamp (n := 19) (by decide)) dX9_append_29 (fun H locs hP hD hS => ?_)
  have hP : va_P (dC, dI) vwCl [(h0, .inr (9, [.ref h1, .int 19, .int 0, .int 0, .int 0, .int 0])), (h1, .inl (cy 0, 1600, .inl (upd (upd (upd (upd f0 16 (vp_nar .byte t2)) 17 (vp_nar .byte t4)) 18 (vp_nar .byte t6)) 19 (vp_nar .byte t8))))] H := hP
  have hD : va_D A [(h0, .inr (9, [.ref h1, .int 19, .int 0, .int 0, .int 0, .int 0])), (h1, .inl (cy 0, 1600, .inl (upd (upd (upd (upd f0 16 (vp_nar .byte t2)) 17 (vp_nar .byte t4)) 18 (vp_nar .byte t6)) 19 (vp_nar .byte t8))))] := hD
  refine lv_aload_n hx hb dX9_append_30 rfl (lv_at hl 1 rfl) ?_
  refine lv_dup hx hb dX9_append_31 rfl ?_
  refine va_get (D := (dC, dI)) (ci := 9) (v := .int 19) (C := RX9) (T := TX9) (N := 6) hx hb hts inB_9 hown hE.1 hP 0 rfl rfl 1 (by decide) (hts _ k_137) (fun _ h9 => h9) rfl dX9_append_32 ?_
  refine lv_iconst (v := 1) hx hb dX9_append_35 (by decide) ?_
  refine lv_iadd hx hb dX9_append_36 ?_
  refine tI (y := 20) (by decide) ?_
  refine va_put (D := (dC, dI)) (ci := 9) (v := .int 20) (ty := tyX9 1) (C := RX9) (T := TX9) (N := 6) hx hb hts inB_9 tyX9 tyX9_ok nmX9 hown hE.1 hP hD hS 0 rfl rfl 1 (by decide) (hts _ k_137) (fun _ h9 => h9) rfl (tyX9_ok 1 (by decide)) rfl rfl (Nat.le_of_ble_eq_true rfl) dX9_append_37 (fun H locs hP hD hS => ?_)
  have hP : va_P (dC, dI) vwCl [(h0, .inr (9, [.ref h1, .int 20, .int 0, .int 0, .int 0, .int 0])), (h1, .inl (cy 0, 1600, .inl (upd (upd (upd (upd f0 16 (vp_nar .byte t2)) 17 (vp_nar .byte t4)) 18 (vp_nar .byte t6)) 19 (vp_nar .byte t8))))] H := hP
  have hD : va_D A [(h0, .inr (9, [.ref h1, .int 20, .int 0, .int 0, .int 0, .int 0])), (h1, .inl (cy 0, 1600, .inl (upd (upd (upd (upd f0 16 (vp_nar .byte t2)) 17 (vp_nar .byte t4)) 18 (vp_nar .byte t6)) 19 (vp_nar .byte t8))))] := hD
  refine lv_iinc (v := (-8)) (lv' := [(2, .int (-8)), (0, .ref h0), (1, .int p1)]) hx hb dX9_append_40 hl (k := 0) rfl (by decide) (by decide) rfl (fun ls hl => ?_)
  refine lv_goto (tgt := 3) hx hb dX9_append_43 (by decide) ?_
  refine lv_iload_n hx hb dX9_append_3 rfl (lv_at hl 0 rfl) ?_
  refine lv_if_lt (tgt := 46) hx hb dX9_append_4 (by decide) (fun _ => ?_) (fun c0 => absurd (by decide) c0)
  exact ret ((upd (upd (upd (upd f0 16 (vp_nar .byte t2)) 17 (vp_nar .byte t4)) 18 (vp_nar .byte t6)) 19 (vp_nar .byte t8))) _ _ _ _ _ _ trivial (hP.sub [0, 1] rfl) (hD.sub [0, 1] (by decide) rfl) hS dX9_append_46 (Nat.le_of_ble_eq_true rfl) (Nat.le_of_ble_eq_true rfl)
theorem pt_X10_feed_89 (p1 : Int32) (p2 : Int32) (p3 : Int32) (p4 : Int32) (p5 : Int32) : (20 : Int32) = F_feed p1 p2 p3 p4 p5 := by
  unfold F_feed
  (repeat' split)
  all_goals first | rfl | assumption | (exfalso; simp only [fa_lt, fa_le, fa_eq, tl_20] at *; omega) | (simp only [fa_lt, fa_le, fa_eq, tl_20] at *; omega)
set_option maxHeartbeats 4000000 in
set_option maxRecDepth 100000 in
theorem cnX10_feed_1 (l : Launch) (dC : Nat → ClassId) (dI : Nat → Nat → Nat) (cy : Nat → ClassId) (h0 : Nat) (h1 : Nat) (h2 : Nat) (b0 : Nat) (b1 : Nat) (b2 : Nat) (b3 : Nat) (b4 : Nat) (b5 : Nat) (b6 : Nat) (b7 : Nat) (f0 : Nat → Int32) (p1 : Int32) (p2 : Int32) (p3 : Int32) (p4 : Int32) (p5 : Int32) : ctI l (dC, dI) cy yX10_feed cX10_feed 6 .int 2 82 0 0 Unit [.ref h0, .int p1, .int p2, .int p3, .int p4, .int p5] [(h0, .inr (10, [.ref h1, .ref b0, .ref b1, .ref b2, .ref b3, .ref b4, .ref b5, .ref b6, .ref b7, .int 0])), (h1, .inr (9, [.ref h2, .int 0, .int 0, .int 0, .int 0, .int 0])), (h2, .inl (cy 0, 1600, .inl f0))] (fun r _ => r = F_feed p1 p2 p3 p4 p5) (fun u => []) := by
  refine ctI_of (by decide) (Nat.le_of_ble_eq_true rfl) (fun p e s m below meth c A ls Q hx hb hml hts hown hE hP hD hA hl ret => ?_)
  have hown : s.vm.findClass RX10 = some m.cls := hown
  have hS : va_S A s.heap s.heap [] := va_S.rf
  have hl : lv_has ls 6 [(0, .ref h0), (1, .int p1), (2, .int p2), (3, .int p3), (4, .int p4), (5, .int p5)] := hl
  refine lv_aload_n hx hb dX10_feed_0 rfl (lv_at hl 0 rfl) ?_
  refine va_get (D := (dC, dI)) (ci := 10) (v := .ref h1) (C := RX10) (T := TX10) (N := 10) hx hb hts inB_10 hown hE.1 hP 0 rfl rfl 0 (by decide) (hts _ k_491) (fun _ h9 => h9) rfl dX10_feed_1 ?_
  refine caVi (n := 0) (wr := [(h0, .inr (10, [.ref h1, .ref b0, .ref b1, .ref b2, .ref b3, .ref b4, .ref b5, .ref b6, .ref b7, .int 0])), (h2, .inl (cy 0, 1600, .inl f0))]) (rest := []) hx hb hml hown hts hE hP hD hS hA (cnX9_hasRoom_1 l dC dI cy h1 h2) k_526 k_527 k_528 k_102 k_529 (by decide +kernel) ⟨Nat.le_of_ble_eq_true rfl, Nat.le_of_ble_eq_true rfl⟩ [1] [0, 2] rfl rfl rfl (by decide) (by decide) (by decide) 0 9 rfl rfl rfl hl.1 rfl (Nat.le_of_ble_eq_true rfl) dX10_feed_4 ⟨Nat.le_of_ble_eq_true rfl, Nat.le_of_ble_eq_true rfl⟩ (fun rr u H locs hw hP hD hS => ?_)
  have hP : va_P (dC, dI) vwCl [(h0, .inr (10, [.ref h1, .ref b0, .ref b1, .ref b2, .ref b3, .ref b4, .ref b5, .ref b6, .ref b7, .int 0])), (h2, .inl (cy 0, 1600, .inl f0)), (h1, .inr (9, [.ref h2, .int 0, .int 0, .int 0, .int 0, .int 0]))] H := hP
  have hD : va_D A [(h0, .inr (10, [.ref h1, .ref b0, .ref b1, .ref b2, .ref b3, .ref b4, .ref b5, .ref b6, .ref b7, .int 0])), (h2, .inl (cy 0, 1600, .inl f0)), (h1, .inr (9, [.ref h2, .int 0, .int 0, .int 0, .int 0, .int 0]))] := hD
  refine tI (y := 1) hw ?_
  refine lv_if_ne (tgt := 12) hx hb dX10_feed_7 (by decide) (fun _ => ?_) (fun c0 => absurd c0 (by decide))
  refine lv_aload_n hx hb dX10_feed_12 rfl (lv_at hl 0 rfl) ?_
  refine va_get (D := (dC, dI)) (ci := 10) (v := .ref h1) (C := RX10) (T := TX10) (N := 10) hx hb hts inB_10 hown hE.1 hP 0 rfl rfl 0 (by decide) (hts _ k_491) (fun _ h9 => h9) rfl dX10_feed_13 ?_
  refine lv_iload_n hx hb dX10_feed_16 rfl (lv_at hl 1 rfl) ?_
  refine caVv (n := 1) (wr := [(h0, .inr (10, [.ref h1, .ref b0, .ref b1, .ref b2, .ref b3, .ref b4, .ref b5, .ref b6, .ref b7, .int 0]))]) (rest := []) hx hb hml hown hts hE hP hD hS hA (cnX9_append_1 l dC dI cy h1 h2 f0 p1) k_530 k_531 k_532 k_102 k_533 (by decide +kernel) ⟨Nat.le_of_ble_eq_true rfl, Nat.le_of_ble_eq_true rfl⟩ [2, 1] [0] rfl rfl rfl (by decide) (by decide) (by decide) 0 9 rfl rfl rfl hl.1 rfl (Nat.le_of_ble_eq_true rfl) dX10_feed_17 ⟨Nat.le_of_ble_eq_true rfl, Nat.le_of_ble_eq_true rfl⟩ (fun u H locs hw hP hD hS => ?_)
  obtain ⟨g1, rfl⟩ : ∃ z, z = u := ⟨_, rfl⟩
  have hP : va_P (dC, dI) vwCl [(h0, .inr (10, [.ref h1, .ref b0, .ref b1, .ref b2, .ref b3, .ref b4, .ref b5, .ref b6, .ref b7, .int 0])), (h1, .inr (9, [.ref h2, .int 4, .int 0, .int 0, .int 0, .int 0])), (h2, .inl (cy 0, 1600, .inl g1))] H := hP
  have hD : va_D A [(h0, .inr (10, [.ref h1, .ref b0, .ref b1, .ref b2, .ref b3, .ref b4, .ref b5, .ref b6, .ref b7, .int 0])), (h1, .inr (9, [.ref h2, .int 4, .int 0, .int 0, .int 0, .int 0])), (h2, .inl (cy 0, 1600, .inl g1))] := hD
  refine lv_aload_n hx hb dX10_feed_20 rfl (lv_at hl 0 rfl) ?_
  refine va_get (D := (dC, dI)) (ci := 10) (v := .ref h1) (C := RX10) (T := TX10) (N := 10) hx hb hts inB_10 hown hE.1 hP 0 rfl rfl 0 (by decide) (hts _ k_491) (fun _ h9 => h9) rfl dX10_feed_21 ?_
  refine lv_iload_n hx hb dX10_feed_24 rfl (lv_at hl 2 rfl) ?_
  refine caVv (n := 1) (wr := [(h0, .inr (10, [.ref h1, .ref b0, .ref b1, .ref b2, .ref b3, .ref b4, .ref b5, .ref b6, .ref b7, .int 0]))]) (rest := []) hx hb hml hown hts hE hP hD hS hA (cnX9_append_2 l dC dI cy h1 h2 g1 p2) k_530 k_531 k_532 k_102 k_533 (by decide +kernel) ⟨Nat.le_of_ble_eq_true rfl, Nat.le_of_ble_eq_true rfl⟩ [1, 2] [0] rfl rfl rfl (by decide) (by decide) (by decide) 0 9 rfl rfl rfl hl.1 rfl (Nat.le_of_ble_eq_true rfl) dX10_feed_25 ⟨Nat.le_of_ble_eq_true rfl, Nat.le_of_ble_eq_true rfl⟩ (fun u H locs hw hP hD hS => ?_)
  obtain ⟨g2, rfl⟩ : ∃ z, z = u := ⟨_, rfl⟩
  have hP : va_P (dC, dI) vwCl [(h0, .inr (10, [.ref h1, .ref b0, .ref b1, .ref b2, .ref b3, .ref b4, .ref b5, .ref b6, .ref b7, .int 0])), (h1, .inr (9, [.ref h2, .int 8, .int 0, .int 0, .int 0, .int 0])), (h2, .inl (cy 0, 1600, .inl g2))] H := hP
  have hD : va_D A [(h0, .inr (10, [.ref h1, .ref b0, .ref b1, .ref b2, .ref b3, .ref b4, .ref b5, .ref b6, .ref b7, .int 0])), (h1, .inr (9, [.ref h2, .int 8, .int 0, .int 0, .int 0, .int 0])), (h2, .inl (cy 0, 1600, .inl g2))] := hD
  refine lv_aload_n hx hb dX10_feed_28 rfl (lv_at hl 0 rfl) ?_
  refine va_get (D := (dC, dI)) (ci := 10) (v := .ref h1) (C := RX10) (T := TX10) (N := 10) hx hb hts inB_10 hown hE.1 hP 0 rfl rfl 0 (by decide) (hts _ k_491) (fun _ h9 => h9) rfl dX10_feed_29 ?_
  refine lv_iload_n hx hb dX10_feed_32 rfl (lv_at hl 3 rfl) ?_
  refine caVv (n := 1) (wr := [(h0, .inr (10, [.ref h1, .ref b0, .ref b1, .ref b2, .ref b3, .ref b4, .ref b5, .ref b6, .ref b7, .int 0]))]) (rest := []) hx hb hml hown hts hE hP hD hS hA (cnX9_append_3 l dC dI cy h1 h2 g2 p3) k_530 k_531 k_532 k_102 k_533 (by decide +kernel) ⟨Nat.le_of_ble_eq_true rfl, Nat.le_of_ble_eq_true rfl⟩ [1, 2] [0] rfl rfl rfl (by decide) (by decide) (by decide) 0 9 rfl rfl rfl hl.1 rfl (Nat.le_of_ble_eq_true rfl) dX10_feed_33 ⟨Nat.le_of_ble_eq_true rfl, Nat.le_of_ble_eq_true rfl⟩ (fun u H locs hw hP hD hS => ?_)
  obtain ⟨g3, rfl⟩ : ∃ z, z = u := ⟨_, rfl⟩
  have hP : va_P (dC, dI) vwCl [(h0, .inr (10, [.ref h1, .ref b0, .ref b1, .ref b2, .ref b3, .ref b4, .ref b5, .ref b6, .ref b7, .int 0])), (h1, .inr (9, [.ref h2, .int 12, .int 0, .int 0, .int 0, .int 0])), (h2, .inl (cy 0, 1600, .inl g3))] H := hP
  have hD : va_D A [(h0, .inr (10, [.ref h1, .ref b0, .ref b1, .ref b2, .ref b3, .ref b4, .ref b5, .ref b6, .ref b7, .int 0])), (h1, .inr (9, [.ref h2, .int 12, .int 0, .int 0, .int 0, .int 0])), (h2, .inl (cy 0, 1600, .inl g3))] := hD
  refine lv_aload_n hx hb dX10_feed_36 rfl (lv_at hl 0 rfl) ?_
  refine va_get (D := (dC, dI)) (ci := 10) (v := .ref h1) (C := RX10) (T := TX10) (N := 10) hx hb hts inB_10 hown hE.1 hP 0 rfl rfl 0 (by decide) (hts _ k_491) (fun _ h9 => h9) rfl dX10_feed_37 ?_
  refine lv_iload hx hb dX10_feed_40 (lv_at hl 4 rfl) ?_
  refine caVv (n := 1) (wr := [(h0, .inr (10, [.ref h1, .ref b0, .ref b1, .ref b2, .ref b3, .ref b4, .ref b5, .ref b6, .ref b7, .int 0]))]) (rest := []) hx hb hml hown hts hE hP hD hS hA (cnX9_append_4 l dC dI cy h1 h2 g3 p4) k_530 k_531 k_532 k_102 k_533 (by decide +kernel) ⟨Nat.le_of_ble_eq_true rfl, Nat.le_of_ble_eq_true rfl⟩ [1, 2] [0] rfl rfl rfl (by decide) (by decide) (by decide) 0 9 rfl rfl rfl hl.1 rfl (Nat.le_of_ble_eq_true rfl) dX10_feed_42 ⟨Nat.le_of_ble_eq_true rfl, Nat.le_of_ble_eq_true rfl⟩ (fun u H locs hw hP hD hS => ?_)
  obtain ⟨g4, rfl⟩ : ∃ z, z = u := ⟨_, rfl⟩
  have hP : va_P (dC, dI) vwCl [(h0, .inr (10, [.ref h1, .ref b0, .ref b1, .ref b2, .ref b3, .ref b4, .ref b5, .ref b6, .ref b7, .int 0])), (h1, .inr (9, [.ref h2, .int 16, .int 0, .int 0, .int 0, .int 0])), (h2, .inl (cy 0, 1600, .inl g4))] H := hP
  have hD : va_D A [(h0, .inr (10, [.ref h1, .ref b0, .ref b1, .ref b2, .ref b3, .ref b4, .ref b5, .ref b6, .ref b7, .int 0])), (h1, .inr (9, [.ref h2, .int 16, .int 0, .int 0, .int 0, .int 0])), (h2, .inl (cy 0, 1600, .inl g4))] := hD
  refine lv_aload_n hx hb dX10_feed_45 rfl (lv_at hl 0 rfl) ?_
  refine va_get (D := (dC, dI)) (ci := 10) (v := .ref h1) (C := RX10) (T := TX10) (N := 10) hx hb hts inB_10 hown hE.1 hP 0 rfl rfl 0 (by decide) (hts _ k_491) (fun _ h9 => h9) rfl dX10_feed_46 ?_
  refine lv_iload hx hb dX10_feed_49 (lv_at hl 5 rfl) ?_
  refine caVv (n := 1) (wr := [(h0, .inr (10, [.ref h1, .ref b0, .ref b1, .ref b2, .ref b3, .ref b4, .ref b5, .ref b6, .ref b7, .int 0]))]) (rest := []) hx hb hml hown hts hE hP hD hS hA (cnX9_append_5 l dC dI cy h1 h2 g4 p5) k_530 k_531 k_532 k_102 k_533 (by decide +kernel) ⟨Nat.le_of_ble_eq_true rfl, Nat.le_of_ble_eq_true rfl⟩ [1, 2] [0] rfl rfl rfl (by decide) (by decide) (by decide) 0 9 rfl rfl rfl hl.1 rfl (Nat.le_of_ble_eq_true rfl) dX10_feed_51 ⟨Nat.le_of_ble_eq_true rfl, Nat.le_of_ble_eq_true rfl⟩ (fun u H locs hw hP hD hS => ?_)
  obtain ⟨g5, rfl⟩ : ∃ z, z = u := ⟨_, rfl⟩
  have hP : va_P (dC, dI) vwCl [(h0, .inr (10, [.ref h1, .ref b0, .ref b1, .ref b2, .ref b3, .ref b4, .ref b5, .ref b6, .ref b7, .int 0])), (h1, .inr (9, [.ref h2, .int 20, .int 0, .int 0, .int 0, .int 0])), (h2, .inl (cy 0, 1600, .inl g5))] H := hP
  have hD : va_D A [(h0, .inr (10, [.ref h1, .ref b0, .ref b1, .ref b2, .ref b3, .ref b4, .ref b5, .ref b6, .ref b7, .int 0])), (h1, .inr (9, [.ref h2, .int 20, .int 0, .int 0, .int 0, .int 0])), (h2, .inl (cy 0, 1600, .inl g5))] := hD
  refine lv_aload_n hx hb dX10_feed_54 rfl (lv_at hl 0 rfl) ?_
  refine va_get (D := (dC, dI)) (ci := 10) (v := .ref h1) (C := RX10) (T := TX10) (N := 10) hx hb hts inB_10 hown hE.1 hP 0 rfl rfl 0 (by decide) (hts _ k_491) (fun _ h9 => h9) rfl dX10_feed_55 ?_
  refine va_getN (D := (dC, dI)) (ci := 9) (v := .int 20) (C := RX9) (T := TX9) (N := 6) hx hb hts inB_9 hown hE.1 hP 1 rfl rfl 1 (by decide) (va_Nw.use rfl (hE.2 _ k_138)) (fun _ h9 => h9) rfl dX10_feed_58 ?_
  exact ret 20 () _ _ _ _ _ _ rfl (pt_X10_feed_89 p1 p2 p3 p4 p5) (hP.sub [] rfl) (hD.sub [] (by decide) rfl) hS dX10_feed_61 (Nat.le_of_ble_eq_true rfl) (Nat.le_of_ble_eq_true rfl)
set_option maxHeartbeats 4000000 in
set_option maxRecDepth 100000 in
theorem cnX11_four_1 (l : Launch) (dC : Nat → ClassId) (dI : Nat → Nat → Nat) (cy : Nat → ClassId) (h0 : Nat) (r : Nat → Nat) (f0 : Nat → Int32) (p1 : Int32) : ctV l (dC, dI) cy yX11_four cX11_four 3 1 60 0 0 ((Nat → Int32)) [.ref h0, .int p1] [(h0, .inr (11, mFs r mv0)), ((r 0), .inl (cy 1, 1600, .inl f0))] (fun _ => True) (fun u => [(h0, .inr (11, mFs r (upd mv0 1 4))), ((r 0), .inl (cy 1, 1600, .inl u))]) := by
  refine ctV_of (by decide) (Nat.le_of_ble_eq_true rfl) (fun p e s m below meth c A ls Q hx hb hml hts hown hnm hE hP hD hA hl ret => ?_)
  have hown : s.vm.findClass RX11 = some m.cls := hown
  have hS : va_S A s.heap s.heap [] := va_S.rf
  have hl : lv_has ls 3 [(0, .ref h0), (1, .int p1)] := hl
  refine lv_bipush (v := 24) hx hb dX11_four_0 (by decide) ?_
  refine lv_istore_n (lv' := [(2, .int 24), (0, .ref h0), (1, .int p1)]) hx hb dX11_four_2 rfl hl (by decide) rfl (fun ls hl => ?_)
  refine lv_iload_n hx hb dX11_four_3 rfl (lv_at hl 0 rfl) ?_
  refine lv_if_lt (tgt := 39) hx hb dX11_four_4 (by decide) (fun c0 => absurd c0 (by decide)) (fun _ => ?_)
  refine lv_aload_n hx hb dX11_four_7 rfl (lv_at hl 1 rfl) ?_
  refine va_get (D := (dC, dI)) (ci := 11) (v := .ref (r 0)) (C := RX11) (T := TX11) (N := 79) hx hb hts inB_11 hown hE.1 hP 0 rfl rfl 0 (by decide) (hts _ k_1320) (fun _ h9 => h9) rfl dX11_four_8 ?_
  refine lv_aload_n hx hb dX11_four_11 rfl (lv_at hl 1 rfl) ?_
  refine va_get (D := (dC, dI)) (ci := 11) (v := .int 0) (C := RX11) (T := TX11) (N := 79) hx hb hts inB_11 hown hE.1 hP 0 rfl rfl 1 (by decide) (hts _ k_1321) (fun _ h9 => h9) rfl dX11_four_12 ?_
  refine lv_iload_n hx hb dX11_four_15 rfl (lv_at hl 2 rfl) ?_
  refine lv_iload_n hx hb dX11_four_16 rfl (lv_at hl 0 rfl) ?_
  refine lv_ishr hx hb dX11_four_17 ?_
  refine lv_topi (fun t1 et1 => ?_)
  refine lv_sipush (v := 255) hx hb dX11_four_18 (by decide) ?_
  refine lv_iand hx hb dX11_four_21 ?_
  refine lv_topi (fun t2 et2 => ?_)
  refine stI (k := 0) hx hb hE hP hD hS 1 rfl (vp_in_nI (n := 0) (by decide) (by decide)) (nI_clamp (n := 0) (by decide)) dX11_four_22 (fun H locs hP hD hS => ?_)
  have hP : va_P (dC, dI) vwCl [(h0, .inr (11, mFs r mv0)), ((r 0), .inl (cy 1, 1600, .inl (upd f0 0 t2)))] H := hP
  have hD : va_D A [(h0, .inr (11, mFs r mv0)), ((r 0), .inl (cy 1, 1600, .inl (upd f0 0 t2)))] := hD
  refine lv_aload_n hx hb dX11_four_23 rfl (lv_at hl 1 rfl) ?_
  refine lv_dup hx hb dX11_four_24 rfl ?_
  refine va_get (D := (dC, dI)) (ci := 11) (v := .int 0) (C := RX11) (T := TX11) (N := 79) hx hb hts inB_11 hown hE.1 hP 0 rfl rfl 1 (by decide) (hts _ k_1321) (fun _ h9 => h9) rfl dX11_four_25 ?_
  refine lv_iconst (v := 1) hx hb dX11_four_28 (by decide) ?_
  refine lv_iadd hx hb dX11_four_29 ?_
  refine tI (y := 1) (by decide) ?_
  refine va_put (D := (dC, dI)) (ci := 11) (v := .int 1) (ty := tyX11 1) (C := RX11) (T := TX11) (N := 79) hx hb hts inB_11 tyX11 tyX11_ok nmX11 hown hE.1 hP hD hS 0 rfl rfl 1 (by decide) (hts _ k_1321) (fun _ h9 => h9) rfl (tyX11_ok 1 (by decide)) rfl rfl (Nat.le_of_ble_eq_true rfl) dX11_four_30 (fun H locs hP hD hS => ?_)
  have hP : va_P (dC, dI) vwCl [(h0, .inr (11, mFs r (upd mv0 1 1))), ((r 0), .inl (cy 1, 1600, .inl (upd f0 0 t2)))] H := hP
  have hD : va_D A [(h0, .inr (11, mFs r (upd mv0 1 1))), ((r 0), .inl (cy 1, 1600, .inl (upd f0 0 t2)))] := hD
  refine lv_iinc (v := 16) (lv' := [(2, .int 16), (0, .ref h0), (1, .int p1)]) hx hb dX11_four_33 hl (k := 0) rfl (by decide) (by decide) rfl (fun ls hl => ?_)
  refine lv_goto (tgt := 3) hx hb dX11_four_36 (by decide) ?_
  refine lv_iload_n hx hb dX11_four_3 rfl (lv_at hl 0 rfl) ?_
  refine lv_if_lt (tgt := 39) hx hb dX11_four_4 (by decide) (fun c0 => absurd c0 (by decide)) (fun _ => ?_)
  refine lv_aload_n hx hb dX11_four_7 rfl (lv_at hl 1 rfl) ?_
  refine va_get (D := (dC, dI)) (ci := 11) (v := .ref (r 0)) (C := RX11) (T := TX11) (N := 79) hx hb hts inB_11 hown hE.1 hP 0 rfl rfl 0 (by decide) (hts _ k_1320) (fun _ h9 => h9) rfl dX11_four_8 ?_
  refine lv_aload_n hx hb dX11_four_11 rfl (lv_at hl 1 rfl) ?_
  refine va_get (D := (dC, dI)) (ci := 11) (v := .int 1) (C := RX11) (T := TX11) (N := 79) hx hb hts inB_11 hown hE.1 hP 0 rfl rfl 1 (by decide) (hts _ k_1321) (fun _ h9 => h9) rfl dX11_four_12 ?_
  refine lv_iload_n hx hb dX11_four_15 rfl (lv_at hl 2 rfl) ?_
  refine lv_iload_n hx hb dX11_four_16 rfl (lv_at hl 0 rfl) ?_
  refine lv_ishr hx hb dX11_four_17 ?_
  refine lv_topi (fun t3 et3 => ?_)
  refine lv_sipush (v := 255) hx hb dX11_four_18 (by decide) ?_
  refine lv_iand hx hb dX11_four_21 ?_
  refine lv_topi (fun t4 et4 => ?_)
  refine stI (k := 1) hx hb hE hP hD hS 1 rfl (vp_in_nI (n := 1) (by decide) (by decide)) (nI_clamp (n := 1) (by decide)) dX11_four_22 (fun H locs hP hD hS => ?_)
  have hP : va_P (dC, dI) vwCl [(h0, .inr (11, mFs r (upd mv0 1 1))), ((r 0), .inl (cy 1, 1600, .inl (upd (upd f0 0 t2) 1 t4)))] H := hP
  have hD : va_D A [(h0, .inr (11, mFs r (upd mv0 1 1))), ((r 0), .inl (cy 1, 1600, .inl (upd (upd f0 0 t2) 1 t4)))] := hD
  refine lv_aload_n hx hb dX11_four_23 rfl (lv_at hl 1 rfl) ?_
  refine lv_dup hx hb dX11_four_24 rfl ?_
  refine va_get (D := (dC, dI)) (ci := 11) (v := .int 1) (C := RX11) (T := TX11) (N := 79) hx hb hts inB_11 hown hE.1 hP 0 rfl rfl 1 (by decide) (hts _ k_1321) (fun _ h9 => h9) rfl dX11_four_25 ?_
  refine lv_iconst (v := 1) hx hb dX11_four_28 (by decide) ?_
  refine lv_iadd hx hb dX11_four_29 ?_
  refine tI (y := 2) (by decide) ?_
  refine va_put (D := (dC, dI)) (ci := 11) (v := .int 2) (ty := tyX11 1) (C := RX11) (T := TX11) (N := 79) hx hb hts inB_11 tyX11 tyX11_ok nmX11 hown hE.1 hP hD hS 0 rfl rfl 1 (by decide) (hts _ k_1321) (fun _ h9 => h9) rfl (tyX11_ok 1 (by decide)) rfl rfl (Nat.le_of_ble_eq_true rfl) dX11_four_30 (fun H locs hP hD hS => ?_)
  have hP : va_P (dC, dI) vwCl [(h0, .inr (11, mFs r (upd mv0 1 2))), ((r 0), .inl (cy 1, 1600, .inl (upd (upd f0 0 t2) 1 t4)))] H := hP
  have hD : va_D A [(h0, .inr (11, mFs r (upd mv0 1 2))), ((r 0), .inl (cy 1, 1600, .inl (upd (upd f0 0 t2) 1 t4)))] := hD
  refine lv_iinc (v := 8) (lv' := [(2, .int 8), (0, .ref h0), (1, .int p1)]) hx hb dX11_four_33 hl (k := 0) rfl (by decide) (by decide) rfl (fun ls hl => ?_)
  refine lv_goto (tgt := 3) hx hb dX11_four_36 (by decide) ?_
  refine lv_iload_n hx hb dX11_four_3 rfl (lv_at hl 0 rfl) ?_
  refine lv_if_lt (tgt := 39) hx hb dX11_four_4 (by decide) (fun c0 => absurd c0 (by decide)) (fun _ => ?_)
  refine lv_aload_n hx hb dX11_four_7 rfl (lv_at hl 1 rfl) ?_
  refine va_get (D := (dC, dI)) (ci := 11) (v := .ref (r 0)) (C := RX11) (T := TX11) (N := 79) hx hb hts inB_11 hown hE.1 hP 0 rfl rfl 0 (by decide) (hts _ k_1320) (fun _ h9 => h9) rfl dX11_four_8 ?_
  refine lv_aload_n hx hb dX11_four_11 rfl (lv_at hl 1 rfl) ?_
  refine va_get (D := (dC, dI)) (ci := 11) (v := .int 2) (C := RX11) (T := TX11) (N := 79) hx hb hts inB_11 hown hE.1 hP 0 rfl rfl 1 (by decide) (hts _ k_1321) (fun _ h9 => h9) rfl dX11_four_12 ?_
  refine lv_iload_n hx hb dX11_four_15 rfl (lv_at hl 2 rfl) ?_
  refine lv_iload_n hx hb dX11_four_16 rfl (lv_at hl 0 rfl) ?_
  refine lv_ishr hx hb dX11_four_17 ?_
  refine lv_topi (fun t5 et5 => ?_)
  refine lv_sipush (v := 255) hx hb dX11_four_18 (by decide) ?_
  refine lv_iand hx hb dX11_four_21 ?_
  refine lv_topi (fun t6 et6 => ?_)
  refine stI (k := 2) hx hb hE hP hD hS 1 rfl (vp_in_nI (n := 2) (by decide) (by decide)) (nI_clamp (n := 2) (by decide)) dX11_four_22 (fun H locs hP hD hS => ?_)
  have hP : va_P (dC, dI) vwCl [(h0, .inr (11, mFs r (upd mv0 1 2))), ((r 0), .inl (cy 1, 1600, .inl (upd (upd (upd f0 0 t2) 1 t4) 2 t6)))] H := hP
  have hD : va_D A [(h0, .inr (11, mFs r (upd mv0 1 2))), ((r 0), .inl (cy 1, 1600, .inl (upd (upd (upd f0 0 t2) 1 t4) 2 t6)))] := hD
  refine lv_aload_n hx hb dX11_four_23 rfl (lv_at hl 1 rfl) ?_
  refine lv_dup hx hb dX11_four_24 rfl ?_
  refine va_get (D := (dC, dI)) (ci := 11) (v := .int 2) (C := RX11) (T := TX11) (N := 79) hx hb hts inB_11 hown hE.1 hP 0 rfl rfl 1 (by decide) (hts _ k_1321) (fun _ h9 => h9) rfl dX11_four_25 ?_
  refine lv_iconst (v := 1) hx hb dX11_four_28 (by decide) ?_
  refine lv_iadd hx hb dX11_four_29 ?_
  refine tI (y := 3) (by decide) ?_
  refine va_put (D := (dC, dI)) (ci := 11) (v := .int 3) (ty := tyX11 1) (C := RX11) (T := TX11) (N := 79) hx hb hts inB_11 tyX11 tyX11_ok nmX11 hown hE.1 hP hD hS 0 rfl rfl 1 (by decide) (hts _ k_1321) (fun _ h9 => h9) rfl (tyX11_ok 1 (by decide)) rfl rfl (Nat.le_of_ble_eq_true rfl) dX11_four_30 (fun H locs hP hD hS => ?_)
  have hP : va_P (dC, dI) vwCl [(h0, .inr (11, mFs r (upd mv0 1 3))), ((r 0), .inl (cy 1, 1600, .inl (upd (upd (upd f0 0 t2) 1 t4) 2 t6)))] H := hP
  have hD : va_D A [(h0, .inr (11, mFs r (upd mv0 1 3))), ((r 0), .inl (cy 1, 1600, .inl (upd (upd (upd f0 0 t2) 1 t4) 2 t6)))] := hD
  refine lv_iinc (v := 0) (lv' := [(2, .int 0), (0, .ref h0), (1, .int p1)]) hx hb dX11_four_33 hl (k := 0) rfl (by decide) (by decide) rfl (fun ls hl => ?_)
  refine lv_goto (tgt := 3) hx hb dX11_four_36 (by decide) ?_
  refine lv_iload_n hx hb dX11_four_3 rfl (lv_at hl 0 rfl) ?_
  refine lv_if_lt (tgt := 39) hx hb dX11_four_4 (by decide) (fun c0 => absurd c0 (by decide)) (fun _ => ?_)
  refine lv_aload_n hx hb dX11_four_7 rfl (lv_at hl 1 rfl) ?_
  refine va_get (D := (dC, dI)) (ci := 11) (v := .ref (r 0)) (C := RX11) (T := TX11) (N := 79) hx hb hts inB_11 hown hE.1 hP 0 rfl rfl 0 (by decide) (hts _ k_1320) (fun _ h9 => h9) rfl dX11_four_8 ?_
  refine lv_aload_n hx hb dX11_four_11 rfl (lv_at hl 1 rfl) ?_
  refine va_get (D := (dC, dI)) (ci := 11) (v := .int 3) (C := RX11) (T := TX11) (N := 79) hx hb hts inB_11 hown hE.1 hP 0 rfl rfl 1 (by decide) (hts _ k_1321) (fun _ h9 => h9) rfl dX11_four_12 ?_
  refine lv_iload_n hx hb dX11_four_15 rfl (lv_at hl 2 rfl) ?_
  refine lv_iload_n hx hb dX11_four_16 rfl (lv_at hl 0 rfl) ?_
  refine lv_ishr hx hb dX11_four_17 ?_
  refine lv_topi (fun t7 et7 => ?_)
  refine lv_sipush (v := 255) hx hb dX11_four_18 (by decide) ?_
  refine lv_iand hx hb dX11_four_21 ?_
  refine lv_topi (fun t8 et8 => ?_)
  refine stI (k := 3) hx hb hE hP hD hS 1 rfl (vp_in_nI (n := 3) (by decide) (by decide)) (nI_clamp (n := 3) (by decide)) dX11_four_22 (fun H locs hP hD hS => ?_)
  have hP : va_P (dC, dI) vwCl [(h0, .inr (11, mFs r (upd mv0 1 3))), ((r 0), .inl (cy 1, 1600, .inl (upd (upd (upd (upd f0 0 t2) 1 t4) 2 t6) 3 t8)))] H := hP
  have hD : va_D A [(h0, .inr (11, mFs r (upd mv0 1 3))), ((r 0), .inl (cy 1, 1600, .inl (upd (upd (upd (upd f0 0 t2) 1 t4) 2 t6) 3 t8)))] := hD
  refine lv_aload_n hx hb dX11_four_23 rfl (lv_at hl 1 rfl) ?_
  refine lv_dup hx hb dX11_four_24 rfl ?_
  refine va_get (D := (dC, dI)) (ci := 11) (v := .int 3) (C := RX11) (T := TX11) (N := 79) hx hb hts inB_11 hown hE.1 hP 0 rfl rfl 1 (by decide) (hts _ k_1321) (fun _ h9 => h9) rfl dX11_four_25 ?_
  refine lv_iconst (v := 1) hx hb dX11_four_28 (by decide) ?_
  refine lv_iadd hx hb dX11_four_29 ?_
  refine tI (y := 4) (by decide) ?_
  refine va_put (D := (dC, dI)) (ci := 11) (v := .int 4) (ty := tyX11 1) (C := RX11) (T := TX11) (N := 79) hx hb hts inB_11 tyX11 tyX11_ok nmX11 hown hE.1 hP hD hS 0 rfl rfl 1 (by decide) (hts _ k_1321) (fun _ h9 => h9) rfl (tyX11_ok 1 (by decide)) rfl rfl (Nat.le_of_ble_eq_true rfl) dX11_four_30 (fun H locs hP hD hS => ?_)
  have hP : va_P (dC, dI) vwCl [(h0, .inr (11, mFs r (upd mv0 1 4))), ((r 0), .inl (cy 1, 1600, .inl (upd (upd (upd (upd f0 0 t2) 1 t4) 2 t6) 3 t8)))] H := hP
  have hD : va_D A [(h0, .inr (11, mFs r (upd mv0 1 4))), ((r 0), .inl (cy 1, 1600, .inl (upd (upd (upd (upd f0 0 t2) 1 t4) 2 t6) 3 t8)))] := hD
  refine lv_iinc (v := (-8)) (lv' := [(2, .int (-8)), (0, .ref h0), (1, .int p1)]) hx hb dX11_four_33 hl (k := 0) rfl (by decide) (by decide) rfl (fun ls hl => ?_)
  refine lv_goto (tgt := 3) hx hb dX11_four_36 (by decide) ?_
  refine lv_iload_n hx hb dX11_four_3 rfl (lv_at hl 0 rfl) ?_
  refine lv_if_lt (tgt := 39) hx hb dX11_four_4 (by decide) (fun _ => ?_) (fun c0 => absurd (by decide) c0)
  exact ret ((upd (upd (upd (upd f0 0 t2) 1 t4) 2 t6) 3 t8)) _ _ _ _ _ _ trivial (hP.sub [0, 1] rfl) (hD.sub [0, 1] (by decide) rfl) hS dX11_four_39 (Nat.le_of_ble_eq_true rfl) (Nat.le_of_ble_eq_true rfl)
set_option maxHeartbeats 4000000 in
set_option maxRecDepth 100000 in
theorem cnX11_four_2 (l : Launch) (dC : Nat → ClassId) (dI : Nat → Nat → Nat) (cy : Nat → ClassId) (h0 : Nat) (r : Nat → Nat) (f0 : Nat → Int32) (p1 : Int32) : ctV l (dC, dI) cy yX11_four cX11_four 3 1 60 0 0 ((Nat → Int32)) [.ref h0, .int p1] [(h0, .inr (11, mFs r (upd mv0 1 4))), ((r 0), .inl (cy 1, 1600, .inl f0))] (fun _ => True) (fun u => [(h0, .inr (11, mFs r (upd mv0 1 8))), ((r 0), .inl (cy 1, 1600, .inl u))]) := by
  refine ctV_of (by decide) (Nat.le_of_ble_eq_true rfl) (fun p e s m below meth c A ls Q hx hb hml hts hown hnm hE hP hD hA hl ret => ?_)
  have hown : s.vm.findClass RX11 = some m.cls := hown
  have hS : va_S A s.heap s.heap [] := va_S.rf
  have hl : lv_has ls 3 [(0, .ref h0), (1, .int p1)] := hl
  refine lv_bipush (v := 24) hx hb dX11_four_0 (by decide) ?_
  refine lv_istore_n (lv' := [(2, .int 24), (0, .ref h0), (1, .int p1)]) hx hb dX11_four_2 rfl hl (by decide) rfl (fun ls hl => ?_)
  refine lv_iload_n hx hb dX11_four_3 rfl (lv_at hl 0 rfl) ?_
  refine lv_if_lt (tgt := 39) hx hb dX11_four_4 (by decide) (fun c0 => absurd c0 (by decide)) (fun _ => ?_)
  refine lv_aload_n hx hb dX11_four_7 rfl (lv_at hl 1 rfl) ?_
  refine va_get (D := (dC, dI)) (ci := 11) (v := .ref (r 0)) (C := RX11) (T := TX11) (N := 79) hx hb hts inB_11 hown hE.1 hP 0 rfl rfl 0 (by decide) (hts _ k_1320) (fun _ h9 => h9) rfl dX11_four_8 ?_
  refine lv_aload_n hx hb dX11_four_11 rfl (lv_at hl 1 rfl) ?_
  refine va_get (D := (dC, dI)) (ci := 11) (v := .int 4) (C := RX11) (T := TX11) (N := 79) hx hb hts inB_11 hown hE.1 hP 0 rfl rfl 1 (by decide) (hts _ k_1321) (fun _ h9 => h9) rfl dX11_four_12 ?_
  refine lv_iload_n hx hb dX11_four_15 rfl (lv_at hl 2 rfl) ?_
  refine lv_iload_n hx hb dX11_four_16 rfl (lv_at hl 0 rfl) ?_
  refine lv_ishr hx hb dX11_four_17 ?_
  refine lv_topi (fun t1 et1 => ?_)
  refine lv_sipush (v := 255) hx hb dX11_four_18 (by decide) ?_
  refine lv_iand hx hb dX11_four_21 ?_
  refine lv_topi (fun t2 et2 => ?_)
  refine stI (k := 4) hx hb hE hP hD hS 1 rfl (vp_in_nI (n := 4) (by decide) (by decide)) (nI_clamp (n := 4) (by decide)) dX11_four_22 (fun H locs hP hD hS => ?_)
  have hP : va_P (dC, dI) vwCl [(h0, .inr (11, mFs r (upd mv0 1 4))), ((r 0), .inl (cy 1, 1600, .inl (upd f0 4 t2)))] H := hP
  have hD : va_D A [(h0, .inr (11, mFs r (upd mv0 1 4))), ((r 0), .inl (cy 1, 1600, .inl (upd f0 4 t2)))] := hD
  refine lv_aload_n hx hb dX11_four_23 rfl (lv_at hl 1 rfl) ?_
  refine lv_dup hx hb dX11_four_24 rfl ?_
  refine va_get (D := (dC, dI)) (ci := 11) (v := .int 4) (C := RX11) (T := TX11) (N := 79) hx hb hts inB_11 hown hE.1 hP 0 rfl rfl 1 (by decide) (hts _ k_1321) (fun _ h9 => h9) rfl dX11_four_25 ?_
  refine lv_iconst (v := 1) hx hb dX11_four_28 (by decide) ?_
  refine lv_iadd hx hb dX11_four_29 ?_
  refine tI (y := 5) (by decide) ?_
  refine va_put (D := (dC, dI)) (ci := 11) (v := .int 5) (ty := tyX11 1) (C := RX11) (T := TX11) (N := 79) hx hb hts inB_11 tyX11 tyX11_ok nmX11 hown hE.1 hP hD hS 0 rfl rfl 1 (by decide) (hts _ k_1321) (fun _ h9 => h9) rfl (tyX11_ok 1 (by decide)) rfl rfl (Nat.le_of_ble_eq_true rfl) dX11_four_30 (fun H locs hP hD hS => ?_)
  have hP : va_P (dC, dI) vwCl [(h0, .inr (11, mFs r (upd mv0 1 5))), ((r 0), .inl (cy 1, 1600, .inl (upd f0 4 t2)))] H := hP
  have hD : va_D A [(h0, .inr (11, mFs r (upd mv0 1 5))), ((r 0), .inl (cy 1, 1600, .inl (upd f0 4 t2)))] := hD
  refine lv_iinc (v := 16) (lv' := [(2, .int 16), (0, .ref h0), (1, .int p1)]) hx hb dX11_four_33 hl (k := 0) rfl (by decide) (by decide) rfl (fun ls hl => ?_)
  refine lv_goto (tgt := 3) hx hb dX11_four_36 (by decide) ?_
  refine lv_iload_n hx hb dX11_four_3 rfl (lv_at hl 0 rfl) ?_
  refine lv_if_lt (tgt := 39) hx hb dX11_four_4 (by decide) (fun c0 => absurd c0 (by decide)) (fun _ => ?_)
  refine lv_aload_n hx hb dX11_four_7 rfl (lv_at hl 1 rfl) ?_
  refine va_get (D := (dC, dI)) (ci := 11) (v := .ref (r 0)) (C := RX11) (T := TX11) (N := 79) hx hb hts inB_11 hown hE.1 hP 0 rfl rfl 0 (by decide) (hts _ k_1320) (fun _ h9 => h9) rfl dX11_four_8 ?_
  refine lv_aload_n hx hb dX11_four_11 rfl (lv_at hl 1 rfl) ?_
  refine va_get (D := (dC, dI)) (ci := 11) (v := .int 5) (C := RX11) (T := TX11) (N := 79) hx hb hts inB_11 hown hE.1 hP 0 rfl rfl 1 (by decide) (hts _ k_1321) (fun _ h9 => h9) rfl dX11_four_12 ?_
  refine lv_iload_n hx hb dX11_four_15 rfl (lv_at hl 2 rfl) ?_
  refine lv_iload_n hx hb dX11_four_16 rfl (lv_at hl 0 rfl) ?_
  refine lv_ishr hx hb dX11_four_17 ?_
  refine lv_topi (fun t3 et3 => ?_)
  refine lv_sipush (v := 255) hx hb dX11_four_18 (by decide) ?_
  refine lv_iand hx hb dX11_four_21 ?_
  refine lv_topi (fun t4 et4 => ?_)
  refine stI (k := 5) hx hb hE hP hD hS 1 rfl (vp_in_nI (n := 5) (by decide) (by decide)) (nI_clamp (n := 5) (by decide)) dX11_four_22 (fun H locs hP hD hS => ?_)
  have hP : va_P (dC, dI) vwCl [(h0, .inr (11, mFs r (upd mv0 1 5))), ((r 0), .inl (cy 1, 1600, .inl (upd (upd f0 4 t2) 5 t4)))] H := hP
  have hD : va_D A [(h0, .inr (11, mFs r (upd mv0 1 5))), ((r 0), .inl (cy 1, 1600, .inl (upd (upd f0 4 t2) 5 t4)))] := hD
  refine lv_aload_n hx hb dX11_four_23 rfl (lv_at hl 1 rfl) ?_
  refine lv_dup hx hb dX11_four_24 rfl ?_
  refine va_get (D := (dC, dI)) (ci := 11) (v := .int 5) (C := RX11) (T := TX11) (N := 79) hx hb hts inB_11 hown hE.1 hP 0 rfl rfl 1 (by decide) (hts _ k_1321) (fun _ h9 => h9) rfl dX11_four_25 ?_
  refine lv_iconst (v := 1) hx hb dX11_four_28 (by decide) ?_
  refine lv_iadd hx hb dX11_four_29 ?_
  refine tI (y := 6) (by decide) ?_
  refine va_put (D := (dC, dI)) (ci := 11) (v := .int 6) (ty := tyX11 1) (C := RX11) (T := TX11) (N := 79) hx hb hts inB_11 tyX11 tyX11_ok nmX11 hown hE.1 hP hD hS 0 rfl rfl 1 (by decide) (hts _ k_1321) (fun _ h9 => h9) rfl (tyX11_ok 1 (by decide)) rfl rfl (Nat.le_of_ble_eq_true rfl) dX11_four_30 (fun H locs hP hD hS => ?_)
  have hP : va_P (dC, dI) vwCl [(h0, .inr (11, mFs r (upd mv0 1 6))), ((r 0), .inl (cy 1, 1600, .inl (upd (upd f0 4 t2) 5 t4)))] H := hP
  have hD : va_D A [(h0, .inr (11, mFs r (upd mv0 1 6))), ((r 0), .inl (cy 1, 1600, .inl (upd (upd f0 4 t2) 5 t4)))] := hD
  refine lv_iinc (v := 8) (lv' := [(2, .int 8), (0, .ref h0), (1, .int p1)]) hx hb dX11_four_33 hl (k := 0) rfl (by decide) (by decide) rfl (fun ls hl => ?_)
  refine lv_goto (tgt := 3) hx hb dX11_four_36 (by decide) ?_
  refine lv_iload_n hx hb dX11_four_3 rfl (lv_at hl 0 rfl) ?_
  refine lv_if_lt (tgt := 39) hx hb dX11_four_4 (by decide) (fun c0 => absurd c0 (by decide)) (fun _ => ?_)
  refine lv_aload_n hx hb dX11_four_7 rfl (lv_at hl 1 rfl) ?_
  refine va_get (D := (dC, dI)) (ci := 11) (v := .ref (r 0)) (C := RX11) (T := TX11) (N := 79) hx hb hts inB_11 hown hE.1 hP 0 rfl rfl 0 (by decide) (hts _ k_1320) (fun _ h9 => h9) rfl dX11_four_8 ?_
  refine lv_aload_n hx hb dX11_four_11 rfl (lv_at hl 1 rfl) ?_
  refine va_get (D := (dC, dI)) (ci := 11) (v := .int 6) (C := RX11) (T := TX11) (N := 79) hx hb hts inB_11 hown hE.1 hP 0 rfl rfl 1 (by decide) (hts _ k_1321) (fun _ h9 => h9) rfl dX11_four_12 ?_
  refine lv_iload_n hx hb dX11_four_15 rfl (lv_at hl 2 rfl) ?_
  refine lv_iload_n hx hb dX11_four_16 rfl (lv_at hl 0 rfl) ?_
  refine lv_ishr hx hb dX11_four_17 ?_
  refine lv_topi (fun t5 et5 => ?_)
  refine lv_sipush (v := 255) hx hb dX11_four_18 (by decide) ?_
  refine lv_iand hx hb dX11_four_21 ?_
  refine lv_topi (fun t6 et6 => ?_)
  refine stI (k := 6) hx hb hE hP hD hS 1 rfl (vp_in_nI (n := 6) (by decide) (by decide)) (nI_clamp (n := 6) (by decide)) dX11_four_22 (fun H locs hP hD hS => ?_)
  have hP : va_P (dC, dI) vwCl [(h0, .inr (11, mFs r (upd mv0 1 6))), ((r 0), .inl (cy 1, 1600, .inl (upd (upd (upd f0 4 t2) 5 t4) 6 t6)))] H := hP
  have hD : va_D A [(h0, .inr (11, mFs r (upd mv0 1 6))), ((r 0), .inl (cy 1, 1600, .inl (upd (upd (upd f0 4 t2) 5 t4) 6 t6)))] := hD
  refine lv_aload_n hx hb dX11_four_23 rfl (lv_at hl 1 rfl) ?_
  refine lv_dup hx hb dX11_four_24 rfl ?_
  refine va_get (D := (dC, dI)) (ci := 11) (v := .int 6) (C := RX11) (T := TX11) (N := 79) hx hb hts inB_11 hown hE.1 hP 0 rfl rfl 1 (by decide) (hts _ k_1321) (fun _ h9 => h9) rfl dX11_four_25 ?_
  refine lv_iconst (v := 1) hx hb dX11_four_28 (by decide) ?_
  refine lv_iadd hx hb dX11_four_29 ?_
  refine tI (y := 7) (by decide) ?_
  refine va_put (D := (dC, dI)) (ci := 11) (v := .int 7) (ty := tyX11 1) (C := RX11) (T := TX11) (N := 79) hx hb hts inB_11 tyX11 tyX11_ok nmX11 hown hE.1 hP hD hS 0 rfl rfl 1 (by decide) (hts _ k_1321) (fun _ h9 => h9) rfl (tyX11_ok 1 (by decide)) rfl rfl (Nat.le_of_ble_eq_true rfl) dX11_four_30 (fun H locs hP hD hS => ?_)
  have hP : va_P (dC, dI) vwCl [(h0, .inr (11, mFs r (upd mv0 1 7))), ((r 0), .inl (cy 1, 1600, .inl (upd (upd (upd f0 4 t2) 5 t4) 6 t6)))] H := hP
  have hD : va_D A [(h0, .inr (11, mFs r (upd mv0 1 7))), ((r 0), .inl (cy 1, 1600, .inl (upd (upd (upd f0 4 t2) 5 t4) 6 t6)))] := hD
  refine lv_iinc (v := 0) (lv' := [(2, .int 0), (0, .ref h0), (1, .int p1)]) hx hb dX11_four_33 hl (k := 0) rfl (by decide) (by decide) rfl (fun ls hl => ?_)
  refine lv_goto (tgt := 3) hx hb dX11_four_36 (by decide) ?_
  refine lv_iload_n hx hb dX11_four_3 rfl (lv_at hl 0 rfl) ?_
  refine lv_if_lt (tgt := 39) hx hb dX11_four_4 (by decide) (fun c0 => absurd c0 (by decide)) (fun _ => ?_)
  refine lv_aload_n hx hb dX11_four_7 rfl (lv_at hl 1 rfl) ?_
  refine va_get (D := (dC, dI)) (ci := 11) (v := .ref (r 0)) (C := RX11) (T := TX11) (N := 79) hx hb hts inB_11 hown hE.1 hP 0 rfl rfl 0 (by decide) (hts _ k_1320) (fun _ h9 => h9) rfl dX11_four_8 ?_
  refine lv_aload_n hx hb dX11_four_11 rfl (lv_at hl 1 rfl) ?_
  refine va_get (D := (dC, dI)) (ci := 11) (v := .int 7) (C := RX11) (T := TX11) (N := 79) hx hb hts inB_11 hown hE.1 hP 0 rfl rfl 1 (by decide) (hts _ k_1321) (fun _ h9 => h9) rfl dX11_four_12 ?_
  refine lv_iload_n hx hb dX11_four_15 rfl (lv_at hl 2 rfl) ?_
  refine lv_iload_n hx hb dX11_four_16 rfl (lv_at hl 0 rfl) ?_
  refine lv_ishr hx hb dX11_four_17 ?_
  refine lv_topi (fun t7 et7 => ?_)
  refine lv_sipush (v := 255) hx hb dX11_four_18 (by decide) ?_
  refine lv_iand hx hb dX11_four_21 ?_
  refine lv_topi (fun t8 et8 => ?_)
  refine stI (k := 7) hx hb hE hP hD hS 1 rfl (vp_in_nI (n := 7) (by decide) (by decide)) (nI_clamp (n := 7) (by decide)) dX11_four_22 (fun H locs hP hD hS => ?_)
  have hP : va_P (dC, dI) vwCl [(h0, .inr (11, mFs r (upd mv0 1 7))), ((r 0), .inl (cy 1, 1600, .inl (upd (upd (upd (upd f0 4 t2) 5 t4) 6 t6) 7 t8)))] H := hP
  have hD : va_D A [(h0, .inr (11, mFs r (upd mv0 1 7))), ((r 0), .inl (cy 1, 1600, .inl (upd (upd (upd (upd f0 4 t2) 5 t4) 6 t6) 7 t8)))] := hD
  refine lv_aload_n hx hb dX11_four_23 rfl (lv_at hl 1 rfl) ?_
  refine lv_dup hx hb dX11_four_24 rfl ?_
  refine va_get (D := (dC, dI)) (ci := 11) (v := .int 7) (C := RX11) (T := TX11) (N := 79) hx hb hts inB_11 hown hE.1 hP 0 rfl rfl 1 (by decide) (hts _ k_1321) (fun _ h9 => h9) rfl dX11_four_25 ?_
  refine lv_iconst (v := 1) hx hb dX11_four_28 (by decide) ?_
  refine lv_iadd hx hb dX11_four_29 ?_
  refine tI (y := 8) (by decide) ?_
  refine va_put (D := (dC, dI)) (ci := 11) (v := .int 8) (ty := tyX11 1) (C := RX11) (T := TX11) (N := 79) hx hb hts inB_11 tyX11 tyX11_ok nmX11 hown hE.1 hP hD hS 0 rfl rfl 1 (by decide) (hts _ k_1321) (fun _ h9 => h9) rfl (tyX11_ok 1 (by decide)) rfl rfl (Nat.le_of_ble_eq_true rfl) dX11_four_30 (fun H locs hP hD hS => ?_)
  have hP : va_P (dC, dI) vwCl [(h0, .inr (11, mFs r (upd mv0 1 8))), ((r 0), .inl (cy 1, 1600, .inl (upd (upd (upd (upd f0 4 t2) 5 t4) 6 t6) 7 t8)))] H := hP
  have hD : va_D A [(h0, .inr (11, mFs r (upd mv0 1 8))), ((r 0), .inl (cy 1, 1600, .inl (upd (upd (upd (upd f0 4 t2) 5 t4) 6 t6) 7 t8)))] := hD
  refine lv_iinc (v := (-8)) (lv' := [(2, .int (-8)), (0, .ref h0), (1, .int p1)]) hx hb dX11_four_33 hl (k := 0) rfl (by decide) (by decide) rfl (fun ls hl => ?_)
  refine lv_goto (tgt := 3) hx hb dX11_four_36 (by decide) ?_
  refine lv_iload_n hx hb dX11_four_3 rfl (lv_at hl 0 rfl) ?_
  refine lv_if_lt (tgt := 39) hx hb dX11_four_4 (by decide) (fun _ => ?_) (fun c0 => absurd (by decide) c0)
  exact ret ((upd (upd (upd (upd f0 4 t2) 5 t4) 6 t6) 7 t8)) _ _ _ _ _ _ trivial (hP.sub [0, 1] rfl) (hD.sub [0, 1] (by decide) rfl) hS dX11_four_39 (Nat.le_of_ble_eq_true rfl) (Nat.le_of_ble_eq_true rfl)
set_option maxHeartbeats 4000000 in
set_option maxRecDepth 100000 in
theorem cnX11_four_3 (l : Launch) (dC : Nat → ClassId) (dI : Nat → Nat → Nat) (cy : Nat → ClassId) (h0 : Nat) (r : Nat → Nat) (f0 : Nat → Int32) (p1 : Int32) : ctV l (dC, dI) cy yX11_four cX11_four 3 1 60 0 0 ((Nat → Int32)) [.ref h0, .int p1] [(h0, .inr (11, mFs r (upd mv0 1 8))), ((r 0), .inl (cy 1, 1600, .inl f0))] (fun _ => True) (fun u => [(h0, .inr (11, mFs r (upd mv0 1 12))), ((r 0), .inl (cy 1, 1600, .inl u))]) := by
  refine ctV_of (by decide) (Nat.le_of_ble_eq_true rfl) (fun p e s m below meth c A ls Q hx hb hml hts hown hnm hE hP hD hA hl ret => ?_)
  have hown : s.vm.findClass RX11 = some m.cls := hown
  have hS : va_S A s.heap s.heap [] := va_S.rf
  have hl : lv_has ls 3 [(0, .ref h0), (1, .int p1)] := hl
  refine lv_bipush (v := 24) hx hb dX11_four_0 (by decide) ?_
  refine lv_istore_n (lv' := [(2, .int 24), (0, .ref h0), (1, .int p1)]) hx hb dX11_four_2 rfl hl (by decide) rfl (fun ls hl => ?_)
  refine lv_iload_n hx hb dX11_four_3 rfl (lv_at hl 0 rfl) ?_
  refine lv_if_lt (tgt := 39) hx hb dX11_four_4 (by decide) (fun c0 => absurd c0 (by decide)) (fun _ => ?_)
  refine lv_aload_n hx hb dX11_four_7 rfl (lv_at hl 1 rfl) ?_
  refine va_get (D := (dC, dI)) (ci := 11) (v := .ref (r 0)) (C := RX11) (T := TX11) (N := 79) hx hb hts inB_11 hown hE.1 hP 0 rfl rfl 0 (by decide) (hts _ k_1320) (fun _ h9 => h9) rfl dX11_four_8 ?_
  refine lv_aload_n hx hb dX11_four_11 rfl (lv_at hl 1 rfl) ?_
  refine va_get (D := (dC, dI)) (ci := 11) (v := .int 8) (C := RX11) (T := TX11) (N := 79) hx hb hts inB_11 hown hE.1 hP 0 rfl rfl 1 (by decide) (hts _ k_1321) (fun _ h9 => h9) rfl dX11_four_12 ?_
  refine lv_iload_n hx hb dX11_four_15 rfl (lv_at hl 2 rfl) ?_
  refine lv_iload_n hx hb dX11_four_16 rfl (lv_at hl 0 rfl) ?_
  refine lv_ishr hx hb dX11_four_17 ?_
  refine lv_topi (fun t1 et1 => ?_)
  refine lv_sipush (v := 255) hx hb dX11_four_18 (by decide) ?_
  refine lv_iand hx hb dX11_four_21 ?_
  refine lv_topi (fun t2 et2 => ?_)
  refine stI (k := 8) hx hb hE hP hD hS 1 rfl (vp_in_nI (n := 8) (by decide) (by decide)) (nI_clamp (n := 8) (by decide)) dX11_four_22 (fun H locs hP hD hS => ?_)
  have hP : va_P (dC, dI) vwCl [(h0, .inr (11, mFs r (upd mv0 1 8))), ((r 0), .inl (cy 1, 1600, .inl (upd f0 8 t2)))] H := hP
  have hD : va_D A [(h0, .inr (11, mFs r (upd mv0 1 8))), ((r 0), .inl (cy 1, 1600, .inl (upd f0 8 t2)))] := hD
  refine lv_aload_n hx hb dX11_four_23 rfl (lv_at hl 1 rfl) ?_
  refine lv_dup hx hb dX11_four_24 rfl ?_
  refine va_get (D := (dC, dI)) (ci := 11) (v := .int 8) (C := RX11) (T := TX11) (N := 79) hx hb hts inB_11 hown hE.1 hP 0 rfl rfl 1 (by decide) (hts _ k_1321) (fun _ h9 => h9) rfl dX11_four_25 ?_
  refine lv_iconst (v := 1) hx hb dX11_four_28 (by decide) ?_
  refine lv_iadd hx hb dX11_four_29 ?_
  refine tI (y := 9) (by decide) ?_
  refine va_put (D := (dC, dI)) (ci := 11) (v := .int 9) (ty := tyX11 1) (C := RX11) (T := TX11) (N := 79) hx hb hts inB_11 tyX11 tyX11_ok nmX11 hown hE.1 hP hD hS 0 rfl rfl 1 (by decide) (hts _ k_1321) (fun _ h9 => h9) rfl (tyX11_ok 1 (by decide)) rfl rfl (Nat.le_of_ble_eq_true rfl) dX11_four_30 (fun H locs hP hD hS => ?_)
  have hP : va_P (dC, dI) vwCl [(h0, .inr (11, mFs r (upd mv0 1 9))), ((r 0), .inl (cy 1, 1600, .inl (upd f0 8 t2)))] H := hP
  have hD : va_D A [(h0, .inr (11, mFs r (upd mv0 1 9))), ((r 0), .inl (cy 1, 1600, .inl (upd f0 8 t2)))] := hD
  refine lv_iinc (v := 16) (lv' := [(2, .int 16), (0, .ref h0), (1, .int p1)]) hx hb dX11_four_33 hl (k := 0) rfl (by decide) (by decide) rfl (fun ls hl => ?_)
  refine lv_goto (tgt := 3) hx hb dX11_four_36 (by decide) ?_
  refine lv_iload_n hx hb dX11_four_3 rfl (lv_at hl 0 rfl) ?_
  refine lv_if_lt (tgt := 39) hx hb dX11_four_4 (by decide) (fun c0 => absurd c0 (by decide)) (fun _ => ?_)
  refine lv_aload_n hx hb dX11_four_7 rfl (lv_at hl 1 rfl) ?_
  refine va_get (D := (dC, dI)) (ci := 11) (v := .ref (r 0)) (C := RX11) (T := TX11) (N := 79) hx hb hts inB_11 hown hE.1 hP 0 rfl rfl 0 (by decide) (hts _ k_1320) (fun _ h9 => h9) rfl dX11_four_8 ?_
  refine lv_aload_n hx hb dX11_four_11 rfl (lv_at hl 1 rfl) ?_
  refine va_get (D := (dC, dI)) (ci := 11) (v := .int 9) (C := RX11) (T := TX11) (N := 79) hx hb hts inB_11 hown hE.1 hP 0 rfl rfl 1 (by decide) (hts _ k_1321) (fun _ h9 => h9) rfl dX11_four_12 ?_
  refine lv_iload_n hx hb dX11_four_15 rfl (lv_at hl 2 rfl) ?_
  refine lv_iload_n hx hb dX11_four_16 rfl (lv_at hl 0 rfl) ?_
  refine lv_ishr hx hb dX11_four_17 ?_
  refine lv_topi (fun t3 et3 => ?_)
  refine lv_sipush (v := 255) hx hb dX11_four_18 (by decide) ?_
  refine lv_iand hx hb dX11_four_21 ?_
  refine lv_topi (fun t4 et4 => ?_)
  refine stI (k := 9) hx hb hE hP hD hS 1 rfl (vp_in_nI (n := 9) (by decide) (by decide)) (nI_clamp (n := 9) (by decide)) dX11_four_22 (fun H locs hP hD hS => ?_)
  have hP : va_P (dC, dI) vwCl [(h0, .inr (11, mFs r (upd mv0 1 9))), ((r 0), .inl (cy 1, 1600, .inl (upd (upd f0 8 t2) 9 t4)))] H := hP
  have hD : va_D A [(h0, .inr (11, mFs r (upd mv0 1 9))), ((r 0), .inl (cy 1, 1600, .inl (upd (upd f0 8 t2) 9 t4)))] := hD
  refine lv_aload_n hx hb dX11_four_23 rfl (lv_at hl 1 rfl) ?_
  refine lv_dup hx hb dX11_four_24 rfl ?_
  refine va_get (D := (dC, dI)) (ci := 11) (v := .int 9) (C := RX11) (T := TX11) (N := 79) hx hb hts inB_11 hown hE.1 hP 0 rfl rfl 1 (by decide) (hts _ k_1321) (fun _ h9 => h9) rfl dX11_four_25 ?_
  refine lv_iconst (v := 1) hx hb dX11_four_28 (by decide) ?_
  refine lv_iadd hx hb dX11_four_29 ?_
  refine tI (y := 10) (by decide) ?_
  refine va_put (D := (dC, dI)) (ci := 11) (v := .int 10) (ty := tyX11 1) (C := RX11) (T := TX11) (N := 79) hx hb hts inB_11 tyX11 tyX11_ok nmX11 hown hE.1 hP hD hS 0 rfl rfl 1 (by decide) (hts _ k_1321) (fun _ h9 => h9) rfl (tyX11_ok 1 (by decide)) rfl rfl (Nat.le_of_ble_eq_true rfl) dX11_four_30 (fun H locs hP hD hS => ?_)
  have hP : va_P (dC, dI) vwCl [(h0, .inr (11, mFs r (upd mv0 1 10))), ((r 0), .inl (cy 1, 1600, .inl (upd (upd f0 8 t2) 9 t4)))] H := hP
  have hD : va_D A [(h0, .inr (11, mFs r (upd mv0 1 10))), ((r 0), .inl (cy 1, 1600, .inl (upd (upd f0 8 t2) 9 t4)))] := hD
  refine lv_iinc (v := 8) (lv' := [(2, .int 8), (0, .ref h0), (1, .int p1)]) hx hb dX11_four_33 hl (k := 0) rfl (by decide) (by decide) rfl (fun ls hl => ?_)
  refine lv_goto (tgt := 3) hx hb dX11_four_36 (by decide) ?_
  refine lv_iload_n hx hb dX11_four_3 rfl (lv_at hl 0 rfl) ?_
  refine lv_if_lt (tgt := 39) hx hb dX11_four_4 (by decide) (fun c0 => absurd c0 (by decide)) (fun _ => ?_)
  refine lv_aload_n hx hb dX11_four_7 rfl (lv_at hl 1 rfl) ?_
  refine va_get (D := (dC, dI)) (ci := 11) (v := .ref (r 0)) (C := RX11) (T := TX11) (N := 79) hx hb hts inB_11 hown hE.1 hP 0 rfl rfl 0 (by decide) (hts _ k_1320) (fun _ h9 => h9) rfl dX11_four_8 ?_
  refine lv_aload_n hx hb dX11_four_11 rfl (lv_at hl 1 rfl) ?_
  refine va_get (D := (dC, dI)) (ci := 11) (v := .int 10) (C := RX11) (T := TX11) (N := 79) hx hb hts inB_11 hown hE.1 hP 0 rfl rfl 1 (by decide) (hts _ k_1321) (fun _ h9 => h9) rfl dX11_four_12 ?_
  refine lv_iload_n hx hb dX11_four_15 rfl (lv_at hl 2 rfl) ?_
  refine lv_iload_n hx hb dX11_four_16 rfl (lv_at hl 0 rfl) ?_
  refine lv_ishr hx hb dX11_four_17 ?_
  refine lv_topi (fun t5 et5 => ?_)
  refine lv_sipush (v := 255) hx hb dX11_four_18 (by decide) ?_
  refine lv_iand hx hb dX11_four_21 ?_
  refine lv_topi (fun t6 et6 => ?_)
  refine stI (k := 10) hx hb hE hP hD hS 1 rfl (vp_in_nI (n := 10) (by decide) (by decide)) (nI_clamp (n := 10) (by decide)) dX11_four_22 (fun H locs hP hD hS => ?_)
  have hP : va_P (dC, dI) vwCl [(h0, .inr (11, mFs r (upd mv0 1 10))), ((r 0), .inl (cy 1, 1600, .inl (upd (upd (upd f0 8 t2) 9 t4) 10 t6)))] H := hP
  have hD : va_D A [(h0, .inr (11, mFs r (upd mv0 1 10))), ((r 0), .inl (cy 1, 1600, .inl (upd (upd (upd f0 8 t2) 9 t4) 10 t6)))] := hD
  refine lv_aload_n hx hb dX11_four_23 rfl (lv_at hl 1 rfl) ?_
  refine lv_dup hx hb dX11_four_24 rfl ?_
  refine va_get (D := (dC, dI)) (ci := 11) (v := .int 10) (C := RX11) (T := TX11) (N := 79) hx hb hts inB_11 hown hE.1 hP 0 rfl rfl 1 (by decide) (hts _ k_1321) (fun _ h9 => h9) rfl dX11_four_25 ?_
  refine lv_iconst (v := 1) hx hb dX11_four_28 (by decide) ?_
  refine lv_iadd hx hb dX11_four_29 ?_
  refine tI (y := 11) (by decide) ?_
  refine va_put (D := (dC, dI)) (ci := 11) (v := .int 11) (ty := tyX11 1) (C := RX11) (T := TX11) (N := 79) hx hb hts inB_11 tyX11 tyX11_ok nmX11 hown hE.1 hP hD hS 0 rfl rfl 1 (by decide) (hts _ k_1321) (fun _ h9 => h9) rfl (tyX11_ok 1 (by decide)) rfl rfl (Nat.le_of_ble_eq_true rfl) dX11_four_30 (fun H locs hP hD hS => ?_)
  have hP : va_P (dC, dI) vwCl [(h0, .inr (11, mFs r (upd mv0 1 11))), ((r 0), .inl (cy 1, 1600, .inl (upd (upd (upd f0 8 t2) 9 t4) 10 t6)))] H := hP
  have hD : va_D A [(h0, .inr (11, mFs r (upd mv0 1 11))), ((r 0), .inl (cy 1, 1600, .inl (upd (upd (upd f0 8 t2) 9 t4) 10 t6)))] := hD
  refine lv_iinc (v := 0) (lv' := [(2, .int 0), (0, .ref h0), (1, .int p1)]) hx hb dX11_four_33 hl (k := 0) rfl (by decide) (by decide) rfl (fun ls hl => ?_)
  refine lv_goto (tgt := 3) hx hb dX11_four_36 (by decide) ?_
  refine lv_iload_n hx hb dX11_four_3 rfl (lv_at hl 0 rfl) ?_
  refine lv_if_lt (tgt := 39) hx hb dX11_four_4 (by decide) (fun c0 => absurd c0 (by decide)) (fun _ => ?_)
  refine lv_aload_n hx hb dX11_four_7 rfl (lv_at hl 1 rfl) ?_
  refine va_get (D := (dC, dI)) (ci := 11) (v := .ref (r 0)) (C := RX11) (T := TX11) (N := 79) hx hb hts inB_11 hown hE.1 hP 0 rfl rfl 0 (by decide) (hts _ k_1320) (fun _ h9 => h9) rfl dX11_four_8 ?_
  refine lv_aload_n hx hb dX11_four_11 rfl (lv_at hl 1 rfl) ?_
  refine va_get (D := (dC, dI)) (ci := 11) (v := .int 11) (C := RX11) (T := TX11) (N := 79) hx hb hts inB_11 hown hE.1 hP 0 rfl rfl 1 (by decide) (hts _ k_1321) (fun _ h9 => h9) rfl dX11_four_12 ?_
  refine lv_iload_n hx hb dX11_four_15 rfl (lv_at hl 2 rfl) ?_
  refine lv_iload_n hx hb dX11_four_16 rfl (lv_at hl 0 rfl) ?_
  refine lv_ishr hx hb dX11_four_17 ?_
  refine lv_topi (fun t7 et7 => ?_)
  refine lv_sipush (v := 255) hx hb dX11_four_18 (by decide) ?_
  refine lv_iand hx hb dX11_four_21 ?_
  refine lv_topi (fun t8 et8 => ?_)
  refine stI (k := 11) hx hb hE hP hD hS 1 rfl (vp_in_nI (n := 11) (by decide) (by decide)) (nI_clamp (n := 11) (by decide)) dX11_four_22 (fun H locs hP hD hS => ?_)
  have hP : va_P (dC, dI) vwCl [(h0, .inr (11, mFs r (upd mv0 1 11))), ((r 0), .inl (cy 1, 1600, .inl (upd (upd (upd (upd f0 8 t2) 9 t4) 10 t6) 11 t8)))] H := hP
  have hD : va_D A [(h0, .inr (11, mFs r (upd mv0 1 11))), ((r 0), .inl (cy 1, 1600, .inl (upd (upd (upd (upd f0 8 t2) 9 t4) 10 t6) 11 t8)))] := hD
  refine lv_aload_n hx hb dX11_four_23 rfl (lv_at hl 1 rfl) ?_
  refine lv_dup hx hb dX11_four_24 rfl ?_
  refine va_get (D := (dC, dI)) (ci := 11) (v := .int 11) (C := RX11) (T := TX11) (N := 79) hx hb hts inB_11 hown hE.1 hP 0 rfl rfl 1 (by decide) (hts _ k_1321) (fun _ h9 => h9) rfl dX11_four_25 ?_
  refine lv_iconst (v := 1) hx hb dX11_four_28 (by decide) ?_
  refine lv_iadd hx hb dX11_four_29 ?_
  refine tI (y := 12) (by decide) ?_
  refine va_put (D := (dC, dI)) (ci := 11) (v := .int 12) (ty := tyX11 1) (C := RX11) (T := TX11) (N := 79) hx hb hts inB_11 tyX11 tyX11_ok nmX11 hown hE.1 hP hD hS 0 rfl rfl 1 (by decide) (hts _ k_1321) (fun _ h9 => h9) rfl (tyX11_ok 1 (by decide)) rfl rfl (Nat.le_of_ble_eq_true rfl) dX11_four_30 (fun H locs hP hD hS => ?_)
  have hP : va_P (dC, dI) vwCl [(h0, .inr (11, mFs r (upd mv0 1 12))), ((r 0), .inl (cy 1, 1600, .inl (upd (upd (upd (upd f0 8 t2) 9 t4) 10 t6) 11 t8)))] H := hP
  have hD : va_D A [(h0, .inr (11, mFs r (upd mv0 1 12))), ((r 0), .inl (cy 1, 1600, .inl (upd (upd (upd (upd f0 8 t2) 9 t4) 10 t6) 11 t8)))] := hD
  refine lv_iinc (v := (-8)) (lv' := [(2, .int (-8)), (0, .ref h0), (1, .int p1)]) hx hb dX11_four_33 hl (k := 0) rfl (by decide) (by decide) rfl (fun ls hl => ?_)
  refine lv_goto (tgt := 3) hx hb dX11_four_36 (by decide) ?_
  refine lv_iload_n hx hb dX11_four_3 rfl (lv_at hl 0 rfl) ?_
  refine lv_if_lt (tgt := 39) hx hb dX11_four_4 (by decide) (fun _ => ?_) (fun c0 => absurd (by decide) c0)
  exact ret ((upd (upd (upd (upd f0 8 t2) 9 t4) 10 t6) 11 t8)) _ _ _ _ _ _ trivial (hP.sub [0, 1] rfl) (hD.sub [0, 1] (by decide) rfl) hS dX11_four_39 (Nat.le_of_ble_eq_true rfl) (Nat.le_of_ble_eq_true rfl)
set_option maxHeartbeats 4000000 in
set_option maxRecDepth 100000 in
theorem cnX11_four_4 (l : Launch) (dC : Nat → ClassId) (dI : Nat → Nat → Nat) (cy : Nat → ClassId) (h0 : Nat) (r : Nat → Nat) (f0 : Nat → Int32) (p1 : Int32) : ctV l (dC, dI) cy yX11_four cX11_four 3 1 60 0 0 ((Nat → Int32)) [.ref h0, .int p1] [(h0, .inr (11, mFs r (upd mv0 1 12))), ((r 0), .inl (cy 1, 1600, .inl f0))] (fun _ => True) (fun u => [(h0, .inr (11, mFs r (upd mv0 1 16))), ((r 0), .inl (cy 1, 1600, .inl u))]) := by
  refine ctV_of (by decide) (Nat.le_of_ble_eq_true rfl) (fun p e s m below meth c A ls Q hx hb hml hts hown hnm hE hP hD hA hl ret => ?_)
  have hown : s.vm.findClass RX11 = some m.cls := hown
  have hS : va_S A s.heap s.heap [] := va_S.rf
  have hl : lv_has ls 3 [(0, .ref h0), (1, .int p1)] := hl
  refine lv_bipush (v := 24) hx hb dX11_four_0 (by decide) ?_
  refine lv_istore_n (lv' := [(2, .int 24), (0, .ref h0), (1, .int p1)]) hx hb dX11_four_2 rfl hl (by decide) rfl (fun ls hl => ?_)
  refine lv_iload_n hx hb dX11_four_3 rfl (lv_at hl 0 rfl) ?_
  refine lv_if_lt (tgt := 39) hx hb dX11_four_4 (by decide) (fun c0 => absurd c0 (by decide)) (fun _ => ?_)
  refine lv_aload_n hx hb dX11_four_7 rfl (lv_at hl 1 rfl) ?_
  refine va_get (D := (dC, dI)) (ci := 11) (v := .ref (r 0)) (C := RX11) (T := TX11) (N := 79) hx hb hts inB_11 hown hE.1 hP 0 rfl rfl 0 (by decide) (hts _ k_1320) (fun _ h9 => h9) rfl dX11_four_8 ?_
  refine lv_aload_n hx hb dX11_four_11 rfl (lv_at hl 1 rfl) ?_
  refine va_get (D := (dC, dI)) (ci := 11) (v := .int 12) (C := RX11) (T := TX11) (N := 79) hx hb hts inB_11 hown hE.1 hP 0 rfl rfl 1 (by decide) (hts _ k_1321) (fun _ h9 => h9) rfl dX11_four_12 ?_
  refine lv_iload_n hx hb dX11_four_15 rfl (lv_at hl 2 rfl) ?_
  refine lv_iload_n hx hb dX11_four_16 rfl (lv_at hl 0 rfl) ?_
  refine lv_ishr hx hb dX11_four_17 ?_
  refine lv_topi (fun t1 et1 => ?_)
  refine lv_sipush (v := 255) hx hb dX11_four_18 (by decide) ?_
  refine lv_iand hx hb dX11_four_21 ?_
  refine lv_topi (fun t2 et2 => ?_)
  refine stI (k := 12) hx hb hE hP hD hS 1 rfl (vp_in_nI (n := 12) (by decide) (by decide)) (nI_clamp (n := 12) (by decide)) dX11_four_22 (fun H locs hP hD hS => ?_)
  have hP : va_P (dC, dI) vwCl [(h0, .inr (11, mFs r (upd mv0 1 12))), ((r 0), .inl (cy 1, 1600, .inl (upd f0 12 t2)))] H := hP
  have hD : va_D A [(h0, .inr (11, mFs r (upd mv0 1 12))), ((r 0), .inl (cy 1, 1600, .inl (upd f0 12 t2)))] := hD
  refine lv_aload_n hx hb dX11_four_23 rfl (lv_at hl 1 rfl) ?_
  refine lv_dup hx hb dX11_four_24 rfl ?_
  refine va_get (D := (dC, dI)) (ci := 11) (v := .int 12) (C := RX11) (T := TX11) (N := 79) hx hb hts inB_11 hown hE.1 hP 0 rfl rfl 1 (by decide) (hts _ k_1321) (fun _ h9 => h9) rfl dX11_four_25 ?_
  refine lv_iconst (v := 1) hx hb dX11_four_28 (by decide) ?_
  refine lv_iadd hx hb dX11_four_29 ?_
  refine tI (y := 13) (by decide) ?_
  refine va_put (D := (dC, dI)) (ci := 11) (v := .int 13) (ty := tyX11 1) (C := RX11) (T := TX11) (N := 79) hx hb hts inB_11 tyX11 tyX11_ok nmX11 hown hE.1 hP hD hS 0 rfl rfl 1 (by decide) (hts _ k_1321) (fun _ h9 => h9) rfl (tyX11_ok 1 (by decide)) rfl rfl (Nat.le_of_ble_eq_true rfl) dX11_four_30 (fun H locs hP hD hS => ?_)
  have hP : va_P (dC, dI) vwCl [(h0, .inr (11, mFs r (upd mv0 1 13))), ((r 0), .inl (cy 1, 1600, .inl (upd f0 12 t2)))] H := hP
  have hD : va_D A [(h0, .inr (11, mFs r (upd mv0 1 13))), ((r 0), .inl (cy 1, 1600, .inl (upd f0 12 t2)))] := hD
  refine lv_iinc (v := 16) (lv' := [(2, .int 16), (0, .ref h0), (1, .int p1)]) hx hb dX11_four_33 hl (k := 0) rfl (by decide) (by decide) rfl (fun ls hl => ?_)
  refine lv_goto (tgt := 3) hx hb dX11_four_36 (by decide) ?_
  refine lv_iload_n hx hb dX11_four_3 rfl (lv_at hl 0 rfl) ?_
  refine lv_if_lt (tgt := 39) hx hb dX11_four_4 (by decide) (fun c0 => absurd c0 (by decide)) (fun _ => ?_)
  refine lv_aload_n hx hb dX11_four_7 rfl (lv_at hl 1 rfl) ?_
  refine va_get (D := (dC, dI)) (ci := 11) (v := .ref (r 0)) (C := RX11) (T := TX11) (N := 79) hx hb hts inB_11 hown hE.1 hP 0 rfl rfl 0 (by decide) (hts _ k_1320) (fun _ h9 => h9) rfl dX11_four_8 ?_
  refine lv_aload_n hx hb dX11_four_11 rfl (lv_at hl 1 rfl) ?_
  refine va_get (D := (dC, dI)) (ci := 11) (v := .int 13) (C := RX11) (T := TX11) (N := 79) hx hb hts inB_11 hown hE.1 hP 0 rfl rfl 1 (by decide) (hts _ k_1321) (fun _ h9 => h9) rfl dX11_four_12 ?_
  refine lv_iload_n hx hb dX11_four_15 rfl (lv_at hl 2 rfl) ?_
  refine lv_iload_n hx hb dX11_four_16 rfl (lv_at hl 0 rfl) ?_
  refine lv_ishr hx hb dX11_four_17 ?_
  refine lv_topi (fun t3 et3 => ?_)
  refine lv_sipush (v := 255) hx hb dX11_four_18 (by decide) ?_
  refine lv_iand hx hb dX11_four_21 ?_
  refine lv_topi (fun t4 et4 => ?_)
  refine stI (k := 13) hx hb hE hP hD hS 1 rfl (vp_in_nI (n := 13) (by decide) (by decide)) (nI_clamp (n := 13) (by decide)) dX11_four_22 (fun H locs hP hD hS => ?_)
  have hP : va_P (dC, dI) vwCl [(h0, .inr (11, mFs r (upd mv0 1 13))), ((r 0), .inl (cy 1, 1600, .inl (upd (upd f0 12 t2) 13 t4)))] H := hP
  have hD : va_D A [(h0, .inr (11, mFs r (upd mv0 1 13))), ((r 0), .inl (cy 1, 1600, .inl (upd (upd f0 12 t2) 13 t4)))] := hD
  refine lv_aload_n hx hb dX11_four_23 rfl (lv_at hl 1 rfl) ?_
  refine lv_dup hx hb dX11_four_24 rfl ?_
  refine va_get (D := (dC, dI)) (ci := 11) (v := .int 13) (C := RX11) (T := TX11) (N := 79) hx hb hts inB_11 hown hE.1 hP 0 rfl rfl 1 (by decide) (hts _ k_1321) (fun _ h9 => h9) rfl dX11_four_25 ?_
  refine lv_iconst (v := 1) hx hb dX11_four_28 (by decide) ?_
  refine lv_iadd hx hb dX11_four_29 ?_
  refine tI (y := 14) (by decide) ?_
  refine va_put (D := (dC, dI)) (ci := 11) (v := .int 14) (ty := tyX11 1) (C := RX11) (T := TX11) (N := 79) hx hb hts inB_11 tyX11 tyX11_ok nmX11 hown hE.1 hP hD hS 0 rfl rfl 1 (by decide) (hts _ k_1321) (fun _ h9 => h9) rfl (tyX11_ok 1 (by decide)) rfl rfl (Nat.le_of_ble_eq_true rfl) dX11_four_30 (fun H locs hP hD hS => ?_)
  have hP : va_P (dC, dI) vwCl [(h0, .inr (11, mFs r (upd mv0 1 14))), ((r 0), .inl (cy 1, 1600, .inl (upd (upd f0 12 t2) 13 t4)))] H := hP
  have hD : va_D A [(h0, .inr (11, mFs r (upd mv0 1 14))), ((r 0), .inl (cy 1, 1600, .inl (upd (upd f0 12 t2) 13 t4)))] := hD
  refine lv_iinc (v := 8) (lv' := [(2, .int 8), (0, .ref h0), (1, .int p1)]) hx hb dX11_four_33 hl (k := 0) rfl (by decide) (by decide) rfl (fun ls hl => ?_)
  refine lv_goto (tgt := 3) hx hb dX11_four_36 (by decide) ?_
  refine lv_iload_n hx hb dX11_four_3 rfl (lv_at hl 0 rfl) ?_
  refine lv_if_lt (tgt := 39) hx hb dX11_four_4 (by decide) (fun c0 => absurd c0 (by decide)) (fun _ => ?_)
  refine lv_aload_n hx hb dX11_four_7 rfl (lv_at hl 1 rfl) ?_
  refine va_get (D := (dC, dI)) (ci := 11) (v := .ref (r 0)) (C := RX11) (T := TX11) (N := 79) hx hb hts inB_11 hown hE.1 hP 0 rfl rfl 0 (by decide) (hts _ k_1320) (fun _ h9 => h9) rfl dX11_four_8 ?_
  refine lv_aload_n hx hb dX11_four_11 rfl (lv_at hl 1 rfl) ?_
  refine va_get (D := (dC, dI)) (ci := 11) (v := .int 14) (C := RX11) (T := TX11) (N := 79) hx hb hts inB_11 hown hE.1 hP 0 rfl rfl 1 (by decide) (hts _ k_1321) (fun _ h9 => h9) rfl dX11_four_12 ?_
  refine lv_iload_n hx hb dX11_four_15 rfl (lv_at hl 2 rfl) ?_
  refine lv_iload_n hx hb dX11_four_16 rfl (lv_at hl 0 rfl) ?_
  refine lv_ishr hx hb dX11_four_17 ?_
  refine lv_topi (fun t5 et5 => ?_)
  refine lv_sipush (v := 255) hx hb dX11_four_18 (by decide) ?_
  refine lv_iand hx hb dX11_four_21 ?_
  refine lv_topi (fun t6 et6 => ?_)
  refine stI (k := 14) hx hb hE hP hD hS 1 rfl (vp_in_nI (n := 14) (by decide) (by decide)) (nI_clamp (n := 14) (by decide)) dX11_four_22 (fun H locs hP hD hS => ?_)
  have hP : va_P (dC, dI) vwCl [(h0, .inr (11, mFs r (upd mv0 1 14))), ((r 0), .inl (cy 1, 1600, .inl (upd (upd (upd f0 12 t2) 13 t4) 14 t6)))] H := hP
  have hD : va_D A [(h0, .inr (11, mFs r (upd mv0 1 14))), ((r 0), .inl (cy 1, 1600, .inl (upd (upd (upd f0 12 t2) 13 t4) 14 t6)))] := hD
  refine lv_aload_n hx hb dX11_four_23 rfl (lv_at hl 1 rfl) ?_
  refine lv_dup hx hb dX11_four_24 rfl ?_
  refine va_get (D := (dC, dI)) (ci := 11) (v := .int 14) (C := RX11) (T := TX11) (N := 79) hx hb hts inB_11 hown hE.1 hP 0 rfl rfl 1 (by decide) (hts _ k_1321) (fun _ h9 => h9) rfl dX11_four_25 ?_
  refine lv_iconst (v := 1) hx hb dX11_four_28 (by decide) ?_
  refine lv_iadd hx hb dX11_four_29 ?_
  refine tI (y := 15) (by decide) ?_
  refine va_put (D := (dC, dI)) (ci := 11) (v := .int 15) (ty := tyX11 1) (C := RX11) (T := TX11) (N := 79) hx hb hts inB_11 tyX11 tyX11_ok nmX11 hown hE.1 hP hD hS 0 rfl rfl 1 (by decide) (hts _ k_1321) (fun _ h9 => h9) rfl (tyX11_ok 1 (by decide)) rfl rfl (Nat.le_of_ble_eq_true rfl) dX11_four_30 (fun H locs hP hD hS => ?_)
  have hP : va_P (dC, dI) vwCl [(h0, .inr (11, mFs r (upd mv0 1 15))), ((r 0), .inl (cy 1, 1600, .inl (upd (upd (upd f0 12 t2) 13 t4) 14 t6)))] H := hP
  have hD : va_D A [(h0, .inr (11, mFs r (upd mv0 1 15))), ((r 0), .inl (cy 1, 1600, .inl (upd (upd (upd f0 12 t2) 13 t4) 14 t6)))] := hD
  refine lv_iinc (v := 0) (lv' := [(2, .int 0), (0, .ref h0), (1, .int p1)]) hx hb dX11_four_33 hl (k := 0) rfl (by decide) (by decide) rfl (fun ls hl => ?_)
  refine lv_goto (tgt := 3) hx hb dX11_four_36 (by decide) ?_
  refine lv_iload_n hx hb dX11_four_3 rfl (lv_at hl 0 rfl) ?_
  refine lv_if_lt (tgt := 39) hx hb dX11_four_4 (by decide) (fun c0 => absurd c0 (by decide)) (fun _ => ?_)
  refine lv_aload_n hx hb dX11_four_7 rfl (lv_at hl 1 rfl) ?_
  refine va_get (D := (dC, dI)) (ci := 11) (v := .ref (r 0)) (C := RX11) (T := TX11) (N := 79) hx hb hts inB_11 hown hE.1 hP 0 rfl rfl 0 (by decide) (hts _ k_1320) (fun _ h9 => h9) rfl dX11_four_8 ?_
  refine lv_aload_n hx hb dX11_four_11 rfl (lv_at hl 1 rfl) ?_
  refine va_get (D := (dC, dI)) (ci := 11) (v := .int 15) (C := RX11) (T := TX11) (N := 79) hx hb hts inB_11 hown hE.1 hP 0 rfl rfl 1 (by decide) (hts _ k_1321) (fun _ h9 => h9) rfl dX11_four_12 ?_
  refine lv_iload_n hx hb dX11_four_15 rfl (lv_at hl 2 rfl) ?_
  refine lv_iload_n hx hb dX11_four_16 rfl (lv_at hl 0 rfl) ?_
  refine lv_ishr hx hb dX11_four_17 ?_
  refine lv_topi (fun t7 et7 => ?_)
  refine lv_sipush (v := 255) hx hb dX11_four_18 (by decide) ?_
  refine lv_iand hx hb dX11_four_21 ?_
  refine lv_topi (fun t8 et8 => ?_)
  refine stI (k := 15) hx hb hE hP hD hS 1 rfl (vp_in_nI (n := 15) (by decide) (by decide)) (nI_clamp (n := 15) (by decide)) dX11_four_22 (fun H locs hP hD hS => ?_)
  have hP : va_P (dC, dI) vwCl [(h0, .inr (11, mFs r (upd mv0 1 15))), ((r 0), .inl (cy 1, 1600, .inl (upd (upd (upd (upd f0 12 t2) 13 t4) 14 t6) 15 t8)))] H := hP
  have hD : va_D A [(h0, .inr (11, mFs r (upd mv0 1 15))), ((r 0), .inl (cy 1, 1600, .inl (upd (upd (upd (upd f0 12 t2) 13 t4) 14 t6) 15 t8)))] := hD
  refine lv_aload_n hx hb dX11_four_23 rfl (lv_at hl 1 rfl) ?_
  refine lv_dup hx hb dX11_four_24 rfl ?_
  refine va_get (D := (dC, dI)) (ci := 11) (v := .int 15) (C := RX11) (T := TX11) (N := 79) hx hb hts inB_11 hown hE.1 hP 0 rfl rfl 1 (by decide) (hts _ k_1321) (fun _ h9 => h9) rfl dX11_four_25 ?_
  refine lv_iconst (v := 1) hx hb dX11_four_28 (by decide) ?_
  refine lv_iadd hx hb dX11_four_29 ?_
  refine tI (y := 16) (by decide) ?_
  refine va_put (D := (dC, dI)) (ci := 11) (v := .int 16) (ty := tyX11 1) (C := RX11) (T := TX11) (N := 79) hx hb hts inB_11 tyX11 tyX11_ok nmX11 hown hE.1 hP hD hS 0 rfl rfl 1 (by decide) (hts _ k_1321) (fun _ h9 => h9) rfl (tyX11_ok 1 (by decide)) rfl rfl (Nat.le_of_ble_eq_true rfl) dX11_four_30 (fun H locs hP hD hS => ?_)
  have hP : va_P (dC, dI) vwCl [(h0, .inr (11, mFs r (upd mv0 1 16))), ((r 0), .inl (cy 1, 1600, .inl (upd (upd (upd (upd f0 12 t2) 13 t4) 14 t6) 15 t8)))] H := hP
  have hD : va_D A [(h0, .inr (11, mFs r (upd mv0 1 16))), ((r 0), .inl (cy 1, 1600, .inl (upd (upd (upd (upd f0 12 t2) 13 t4) 14 t6) 15 t8)))] := hD
  refine lv_iinc (v := (-8)) (lv' := [(2, .int (-8)), (0, .ref h0), (1, .int p1)]) hx hb dX11_four_33 hl (k := 0) rfl (by decide) (by decide) rfl (fun ls hl => ?_)
  refine lv_goto (tgt := 3) hx hb dX11_four_36 (by decide) ?_
  refine lv_iload_n hx hb dX11_four_3 rfl (lv_at hl 0 rfl) ?_
  refine lv_if_lt (tgt := 39) hx hb dX11_four_4 (by decide) (fun _ => ?_) (fun c0 => absurd (by decide) c0)
  exact ret ((upd (upd (upd (upd f0 12 t2) 13 t4) 14 t6) 15 t8)) _ _ _ _ _ _ trivial (hP.sub [0, 1] rfl) (hD.sub [0, 1] (by decide) rfl) hS dX11_four_39 (Nat.le_of_ble_eq_true rfl) (Nat.le_of_ble_eq_true rfl)
