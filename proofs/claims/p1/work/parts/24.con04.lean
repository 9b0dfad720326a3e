set_option maxHeartbeats 4000000 in
set_option maxRecDepth 100000 in
theorem cnX11_here_1 (l : Launch) (dC : Nat → ClassId) (dI : Nat → Nat → Nat) (cy : Nat → ClassId) (h0 : Nat) (r : Nat → Nat) : ctI l (dC, dI) cy yX11_here cX11_here 2 .int 1 60 0 0 Unit [.ref h0, .int 0] [(h0, .inr (11, mFs r (upd (upd (upd mv0 43 10) 44 150) 45 2)))] (fun r _ => r = (-1)) (fun u => [(h0, .inr (11, mFs r (upd (upd (upd mv0 43 10) 44 150) 45 2)))]) := by
  refine ctI_of (by decide) (Nat.le_of_ble_eq_true rfl) (fun p e s m below meth c A ls Q hx hb hml hts hown hE hP hD hA hl ret => ?_)
  have hown : s.vm.findClass RX11 = some m.cls := hown
  have hS : va_S A s.heap s.heap [] := va_S.rf
  have hl : lv_has ls 2 [(0, .ref h0), (1, .int 0)] := hl
  refine lv_aload_n hx hb dX11_here_0 rfl (lv_at hl 0 rfl) ?_
  refine va_get (D := (dC, dI)) (ci := 11) (v := .int 0) (C := RX11) (T := TX11) (N := 79) hx hb hts inB_11 hown hE.1 hP 0 rfl rfl 4 (by decide) (hts _ k_1324) (fun _ h9 => h9) rfl dX11_here_1 ?_
  refine lv_iload_n hx hb dX11_here_4 rfl (lv_at hl 1 rfl) ?_
  refine lv_iadd hx hb dX11_here_5 ?_
  refine tI (y := 0) (by decide) ?_
  refine lv_aload_n hx hb dX11_here_6 rfl (lv_at hl 0 rfl) ?_
  refine va_get (D := (dC, dI)) (ci := 11) (v := .int 0) (C := RX11) (T := TX11) (N := 79) hx hb hts inB_11 hown hE.1 hP 0 rfl rfl 5 (by decide) (hts _ k_1325) (fun _ h9 => h9) rfl dX11_here_7 ?_
  refine lv_icmp_ge (tgt := 27) hx hb dX11_here_10 (by decide) (fun _ => ?_) (fun c0 => absurd (by decide) c0)
  refine lv_iconst (v := (-1)) hx hb dX11_here_27 (by decide) ?_
  exact ret (-1) () _ _ _ _ _ _ rfl rfl (hP.sub [0] rfl) (hD.sub [0] (by decide) rfl) hS dX11_here_28 (Nat.le_of_ble_eq_true rfl) (Nat.le_of_ble_eq_true rfl)
set_option maxHeartbeats 4000000 in
set_option maxRecDepth 100000 in
theorem cnX11_token_1 (l : Launch) (dC : Nat → ClassId) (dI : Nat → Nat → Nat) (cy : Nat → ClassId) (h0 : Nat) (r : Nat → Nat) : ctV l (dC, dI) cy yX11_token cX11_token 3 2 81 0 0 Unit [.ref h0] [(h0, .inr (11, mFs r (upd (upd (upd mv0 43 10) 44 150) 45 2)))] (fun _ => True) (fun u => [(h0, .inr (11, mFs r (upd (upd (upd mv0 43 10) 44 150) 45 2)))]) := by
  refine ctV_of (by decide) (Nat.le_of_ble_eq_true rfl) (fun p e s m below meth c A ls Q hx hb hml hts hown hnm hE hP hD hA hl ret => ?_)
  have hown : s.vm.findClass RX11 = some m.cls := hown
  have hS : va_S A s.heap s.heap [] := va_S.rf
  have hl : lv_has ls 3 [(0, .ref h0)] := hl
  refine lv_aload_n hx hb dX11_token_0 rfl (lv_at hl 0 rfl) ?_
  refine lv_iconst (v := 0) hx hb dX11_token_1 (by decide) ?_
  refine caVi (n := 1) (wr := []) (rest := []) hx hb hml hown hts hE hP hD hS hA (cnX11_here_1 l dC dI cy h0 r) k_1583 k_1585 k_43 k_114 k_1586 (by decide +kernel) ⟨Nat.le_of_ble_eq_true rfl, Nat.le_of_ble_eq_true rfl⟩ [0] [] rfl rfl rfl (by decide) (by decide) (by decide) 0 11 rfl rfl rfl hl.1 rfl (Nat.le_of_ble_eq_true rfl) dX11_token_2 ⟨Nat.le_of_ble_eq_true rfl, Nat.le_of_ble_eq_true rfl⟩ (fun rr u H locs hw hP hD hS => ?_)
  have hP : va_P (dC, dI) vwCl [(h0, .inr (11, mFs r (upd (upd (upd mv0 43 10) 44 150) 45 2)))] H := hP
  have hD : va_D A [(h0, .inr (11, mFs r (upd (upd (upd mv0 43 10) 44 150) 45 2)))] := hD
  refine tI (y := (-1)) hw ?_
  refine lv_bipush (v := 32) hx hb dX11_token_5 (by decide) ?_
  refine lv_icmp_eq (tgt := 20) hx hb dX11_token_7 (by decide) (fun c0 => absurd c0 (by decide)) (fun _ => ?_)
  refine lv_aload_n hx hb dX11_token_10 rfl (lv_at hl 0 rfl) ?_
  refine lv_iconst (v := 0) hx hb dX11_token_11 (by decide) ?_
  refine caVi (n := 1) (wr := []) (rest := []) hx hb hml hown hts hE hP hD hS hA (cnX11_here_1 l dC dI cy h0 r) k_1583 k_1585 k_43 k_114 k_1586 (by decide +kernel) ⟨Nat.le_of_ble_eq_true rfl, Nat.le_of_ble_eq_true rfl⟩ [0] [] rfl rfl rfl (by decide) (by decide) (by decide) 0 11 rfl rfl rfl hl.1 rfl (Nat.le_of_ble_eq_true rfl) dX11_token_12 ⟨Nat.le_of_ble_eq_true rfl, Nat.le_of_ble_eq_true rfl⟩ (fun rr u H locs hw hP hD hS => ?_)
  have hP : va_P (dC, dI) vwCl [(h0, .inr (11, mFs r (upd (upd (upd mv0 43 10) 44 150) 45 2)))] H := hP
  have hD : va_D A [(h0, .inr (11, mFs r (upd (upd (upd mv0 43 10) 44 150) 45 2)))] := hD
  refine tI (y := (-1)) hw ?_
  refine lv_bipush (v := 10) hx hb dX11_token_15 (by decide) ?_
  refine lv_icmp_ne (tgt := 33) hx hb dX11_token_17 (by decide) (fun _ => ?_) (fun c0 => absurd c0 (by decide))
  refine lv_aload_n hx hb dX11_token_33 rfl (lv_at hl 0 rfl) ?_
  refine lv_aload_n hx hb dX11_token_34 rfl (lv_at hl 0 rfl) ?_
  refine va_get (D := (dC, dI)) (ci := 11) (v := .int 0) (C := RX11) (T := TX11) (N := 79) hx hb hts inB_11 hown hE.1 hP 0 rfl rfl 4 (by decide) (hts _ k_1324) (fun _ h9 => h9) rfl dX11_token_35 ?_
  refine va_put (D := (dC, dI)) (ci := 11) (v := .int 0) (ty := tyX11 7) (C := RX11) (T := TX11) (N := 79) hx hb hts inB_11 tyX11 tyX11_ok nmX11 hown hE.1 hP hD hS 0 rfl rfl 7 (by decide) (hts _ k_1327) (fun _ h9 => h9) rfl (tyX11_ok 7 (by decide)) rfl rfl (Nat.le_of_ble_eq_true rfl) dX11_token_38 (fun H locs hP hD hS => ?_)
  have hP : va_P (dC, dI) vwCl [(h0, .inr (11, mFs r (upd (upd (upd mv0 43 10) 44 150) 45 2)))] H := hP
  have hD : va_D A [(h0, .inr (11, mFs r (upd (upd (upd mv0 43 10) 44 150) 45 2)))] := hD
  refine lv_aload_n hx hb dX11_token_41 rfl (lv_at hl 0 rfl) ?_
  refine lv_iconst (v := 0) hx hb dX11_token_42 (by decide) ?_
  refine caVi (n := 1) (wr := []) (rest := []) hx hb hml hown hts hE hP hD hS hA (cnX11_here_1 l dC dI cy h0 r) k_1583 k_1585 k_43 k_114 k_1586 (by decide +kernel) ⟨Nat.le_of_ble_eq_true rfl, Nat.le_of_ble_eq_true rfl⟩ [0] [] rfl rfl rfl (by decide) (by decide) (by decide) 0 11 rfl rfl rfl hl.1 rfl (Nat.le_of_ble_eq_true rfl) dX11_token_43 ⟨Nat.le_of_ble_eq_true rfl, Nat.le_of_ble_eq_true rfl⟩ (fun rr u H locs hw hP hD hS => ?_)
  have hP : va_P (dC, dI) vwCl [(h0, .inr (11, mFs r (upd (upd (upd mv0 43 10) 44 150) 45 2)))] H := hP
  have hD : va_D A [(h0, .inr (11, mFs r (upd (upd (upd mv0 43 10) 44 150) 45 2)))] := hD
  refine tI (y := (-1)) hw ?_
  refine lv_istore_n (lv' := [(1, .int (-1)), (0, .ref h0)]) hx hb dX11_token_46 rfl hl (by decide) rfl (fun ls hl => ?_)
  refine lv_iconst (v := 0) hx hb dX11_token_47 (by decide) ?_
  refine lv_istore_n (lv' := [(2, .int 0), (1, .int (-1)), (0, .ref h0)]) hx hb dX11_token_48 rfl hl (by decide) rfl (fun ls hl => ?_)
  refine lv_aload_n hx hb dX11_token_49 rfl (lv_at hl 2 rfl) ?_
  refine lv_lconst (v := 0) hx hb dX11_token_50 (by decide) ?_
  refine va_put (D := (dC, dI)) (ci := 11) (v := .long 0) (ty := tyX11 9) (C := RX11) (T := TX11) (N := 79) hx hb hts inB_11 tyX11 tyX11_ok nmX11 hown hE.1 hP hD hS 0 rfl rfl 9 (by decide) (hts _ k_1329) (fun _ h9 => h9) rfl (tyX11_ok 9 (by decide)) rfl rfl (Nat.le_of_ble_eq_true rfl) dX11_token_51 (fun H locs hP hD hS => ?_)
  have hP : va_P (dC, dI) vwCl [(h0, .inr (11, mFs r (upd (upd (upd mv0 43 10) 44 150) 45 2)))] H := hP
  have hD : va_D A [(h0, .inr (11, mFs r (upd (upd (upd mv0 43 10) 44 150) 45 2)))] := hD
  refine lv_aload_n hx hb dX11_token_54 rfl (lv_at hl 2 rfl) ?_
  refine lv_iconst (v := 0) hx hb dX11_token_55 (by decide) ?_
  refine va_put (D := (dC, dI)) (ci := 11) (v := .int 0) (ty := tyX11 8) (C := RX11) (T := TX11) (N := 79) hx hb hts inB_11 tyX11 tyX11_ok nmX11 hown hE.1 hP hD hS 0 rfl rfl 8 (by decide) (hts _ k_1328) (fun _ h9 => h9) rfl (tyX11_ok 8 (by decide)) rfl rfl (Nat.le_of_ble_eq_true rfl) dX11_token_56 (fun H locs hP hD hS => ?_)
  have hP : va_P (dC, dI) vwCl [(h0, .inr (11, mFs r (upd (upd (upd mv0 43 10) 44 150) 45 2)))] H := hP
  have hD : va_D A [(h0, .inr (11, mFs r (upd (upd (upd mv0 43 10) 44 150) 45 2)))] := hD
  refine lv_iload_n hx hb dX11_token_59 rfl (lv_at hl 1 rfl) ?_
  refine lv_if_ge (tgt := 71) hx hb dX11_token_60 (by decide) (fun c0 => absurd c0 (by decide)) (fun _ => ?_)
  refine lv_aload_n hx hb dX11_token_63 rfl (lv_at hl 2 rfl) ?_
  refine lv_iconst (v := 0) hx hb dX11_token_64 (by decide) ?_
  refine va_put (D := (dC, dI)) (ci := 11) (v := .int 0) (ty := tyX11 6) (C := RX11) (T := TX11) (N := 79) hx hb hts inB_11 tyX11 tyX11_ok nmX11 hown hE.1 hP hD hS 0 rfl rfl 6 (by decide) (hts _ k_1326) (fun _ h9 => h9) rfl (tyX11_ok 6 (by decide)) rfl rfl (Nat.le_of_ble_eq_true rfl) dX11_token_65 (fun H locs hP hD hS => ?_)
  have hP : va_P (dC, dI) vwCl [(h0, .inr (11, mFs r (upd (upd (upd mv0 43 10) 44 150) 45 2)))] H := hP
  have hD : va_D A [(h0, .inr (11, mFs r (upd (upd (upd mv0 43 10) 44 150) 45 2)))] := hD
  refine lv_goto (tgt := 232) hx hb dX11_token_68 (by decide) ?_
  refine lv_aload_n hx hb dX11_token_232 rfl (lv_at hl 2 rfl) ?_
  refine va_get (D := (dC, dI)) (ci := 11) (v := .int 0) (C := RX11) (T := TX11) (N := 79) hx hb hts inB_11 hown hE.1 hP 0 rfl rfl 6 (by decide) (hts _ k_1326) (fun _ h9 => h9) rfl dX11_token_233 ?_
  refine lv_iconst (v := 3) hx hb dX11_token_236 (by decide) ?_
  refine lv_icmp_eq (tgt := 250) hx hb dX11_token_237 (by decide) (fun c0 => absurd c0 (by decide)) (fun _ => ?_)
  refine lv_aload_n hx hb dX11_token_240 rfl (lv_at hl 2 rfl) ?_
  refine lv_dup hx hb dX11_token_241 rfl ?_
  refine va_get (D := (dC, dI)) (ci := 11) (v := .int 0) (C := RX11) (T := TX11) (N := 79) hx hb hts inB_11 hown hE.1 hP 0 rfl rfl 4 (by decide) (hts _ k_1324) (fun _ h9 => h9) rfl dX11_token_242 ?_
  refine lv_iload_n hx hb dX11_token_245 rfl (lv_at hl 0 rfl) ?_
  refine lv_iadd hx hb dX11_token_246 ?_
  refine tI (y := 0) (by decide) ?_
  refine va_put (D := (dC, dI)) (ci := 11) (v := .int 0) (ty := tyX11 4) (C := RX11) (T := TX11) (N := 79) hx hb hts inB_11 tyX11 tyX11_ok nmX11 hown hE.1 hP hD hS 0 rfl rfl 4 (by decide) (hts _ k_1324) (fun _ h9 => h9) rfl (tyX11_ok 4 (by decide)) rfl rfl (Nat.le_of_ble_eq_true rfl) dX11_token_247 (fun H locs hP hD hS => ?_)
  have hP : va_P (dC, dI) vwCl [(h0, .inr (11, mFs r (upd (upd (upd mv0 43 10) 44 150) 45 2)))] H := hP
  have hD : va_D A [(h0, .inr (11, mFs r (upd (upd (upd mv0 43 10) 44 150) 45 2)))] := hD
  exact ret () _ _ _ _ _ _ trivial (hP.sub [0] rfl) (hD.sub [0] (by decide) rfl) hS dX11_token_250 (Nat.le_of_ble_eq_true rfl) (Nat.le_of_ble_eq_true rfl)
set_option maxHeartbeats 4000000 in
set_option maxRecDepth 100000 in
theorem cnX11_readAll_1 (l : Launch) (dC : Nat → ClassId) (dI : Nat → Nat → Nat) (cy : Nat → ClassId) (h0 : Nat) (r : Nat → Nat) : ctV l (dC, dI) cy yX11_readAll cX11_readAll 1 3 103 0 0 Unit [.ref h0] [(h0, .inr (11, mFs r mv0))] (fun _ => True) (fun u => [(h0, .inr (11, mFs r (upd (upd (upd mv0 43 10) 44 150) 45 2)))]) := by
  refine ctV_of (by decide) (Nat.le_of_ble_eq_true rfl) (fun p e s m below meth c A ls Q hx hb hml hts hown hnm hE hP hD hA hl ret => ?_)
  have hown : s.vm.findClass RX11 = some m.cls := hown
  have hS : va_S A s.heap s.heap [] := va_S.rf
  have hl : lv_has ls 1 [(0, .ref h0)] := hl
  refine lv_aload_n hx hb dX11_readAll_0 rfl (lv_at hl 0 rfl) ?_
  refine lv_aload_n hx hb dX11_readAll_1 rfl (lv_at hl 0 rfl) ?_
  refine va_get (D := (dC, dI)) (ci := 11) (v := .int 0) (C := RX11) (T := TX11) (N := 79) hx hb hts inB_11 hown hE.1 hP 0 rfl rfl 1 (by decide) (hts _ k_1321) (fun _ h9 => h9) rfl dX11_readAll_2 ?_
  refine va_put (D := (dC, dI)) (ci := 11) (v := .int 0) (ty := tyX11 5) (C := RX11) (T := TX11) (N := 79) hx hb hts inB_11 tyX11 tyX11_ok nmX11 hown hE.1 hP hD hS 0 rfl rfl 5 (by decide) (hts _ k_1325) (fun _ h9 => h9) rfl (tyX11_ok 5 (by decide)) rfl rfl (Nat.le_of_ble_eq_true rfl) dX11_readAll_5 (fun H locs hP hD hS => ?_)
  have hP : va_P (dC, dI) vwCl [(h0, .inr (11, mFs r mv0))] H := hP
  have hD : va_D A [(h0, .inr (11, mFs r mv0))] := hD
  refine lv_aload_n hx hb dX11_readAll_8 rfl (lv_at hl 0 rfl) ?_
  refine lv_iconst (v := 0) hx hb dX11_readAll_9 (by decide) ?_
  refine va_put (D := (dC, dI)) (ci := 11) (v := .int 0) (ty := tyX11 1) (C := RX11) (T := TX11) (N := 79) hx hb hts inB_11 tyX11 tyX11_ok nmX11 hown hE.1 hP hD hS 0 rfl rfl 1 (by decide) (hts _ k_1321) (fun _ h9 => h9) rfl (tyX11_ok 1 (by decide)) rfl rfl (Nat.le_of_ble_eq_true rfl) dX11_readAll_10 (fun H locs hP hD hS => ?_)
  have hP : va_P (dC, dI) vwCl [(h0, .inr (11, mFs r mv0))] H := hP
  have hD : va_D A [(h0, .inr (11, mFs r mv0))] := hD
  refine lv_aload_n hx hb dX11_readAll_13 rfl (lv_at hl 0 rfl) ?_
  refine lv_iconst (v := 0) hx hb dX11_readAll_14 (by decide) ?_
  refine va_put (D := (dC, dI)) (ci := 11) (v := .int 0) (ty := tyX11 4) (C := RX11) (T := TX11) (N := 79) hx hb hts inB_11 tyX11 tyX11_ok nmX11 hown hE.1 hP hD hS 0 rfl rfl 4 (by decide) (hts _ k_1324) (fun _ h9 => h9) rfl (tyX11_ok 4 (by decide)) rfl rfl (Nat.le_of_ble_eq_true rfl) dX11_readAll_15 (fun H locs hP hD hS => ?_)
  have hP : va_P (dC, dI) vwCl [(h0, .inr (11, mFs r mv0))] H := hP
  have hD : va_D A [(h0, .inr (11, mFs r mv0))] := hD
  refine lv_aload_n hx hb dX11_readAll_18 rfl (lv_at hl 0 rfl) ?_
  refine lv_iconst (v := 0) hx hb dX11_readAll_19 (by decide) ?_
  refine va_put (D := (dC, dI)) (ci := 11) (v := .int 0) (ty := tyX11 2) (C := RX11) (T := TX11) (N := 79) hx hb hts inB_11 tyX11 tyX11_ok nmX11 hown hE.1 hP hD hS 0 rfl rfl 2 (by decide) (hts _ k_1322) (fun _ h9 => h9) rfl (tyX11_ok 2 (by decide)) rfl rfl (Nat.le_of_ble_eq_true rfl) dX11_readAll_20 (fun H locs hP hD hS => ?_)
  have hP : va_P (dC, dI) vwCl [(h0, .inr (11, mFs r mv0))] H := hP
  have hD : va_D A [(h0, .inr (11, mFs r mv0))] := hD
  refine lv_aload_n hx hb dX11_readAll_23 rfl (lv_at hl 0 rfl) ?_
  refine lv_iconst (v := (-1)) hx hb dX11_readAll_24 (by decide) ?_
  refine va_put (D := (dC, dI)) (ci := 11) (v := .int (-1)) (ty := tyX11 3) (C := RX11) (T := TX11) (N := 79) hx hb hts inB_11 tyX11 tyX11_ok nmX11 hown hE.1 hP hD hS 0 rfl rfl 3 (by decide) (hts _ k_1323) (fun _ h9 => h9) rfl (tyX11_ok 3 (by decide)) rfl rfl (Nat.le_of_ble_eq_true rfl) dX11_readAll_25 (fun H locs hP hD hS => ?_)
  have hP : va_P (dC, dI) vwCl [(h0, .inr (11, mFs r mv0))] H := hP
  have hD : va_D A [(h0, .inr (11, mFs r mv0))] := hD
  refine lv_aload_n hx hb dX11_readAll_28 rfl (lv_at hl 0 rfl) ?_
  refine lv_iconst (v := 0) hx hb dX11_readAll_29 (by decide) ?_
  refine va_put (D := (dC, dI)) (ci := 11) (v := .int 0) (ty := tyX11 41) (C := RX11) (T := TX11) (N := 79) hx hb hts inB_11 tyX11 tyX11_ok nmX11 hown hE.1 hP hD hS 0 rfl rfl 41 (by decide) (hts _ k_1361) (fun _ h9 => h9) rfl (tyX11_ok 41 (by decide)) rfl rfl (Nat.le_of_ble_eq_true rfl) dX11_readAll_30 (fun H locs hP hD hS => ?_)
  have hP : va_P (dC, dI) vwCl [(h0, .inr (11, mFs r mv0))] H := hP
  have hD : va_D A [(h0, .inr (11, mFs r mv0))] := hD
  refine lv_aload_n hx hb dX11_readAll_33 rfl (lv_at hl 0 rfl) ?_
  refine lv_iconst (v := 0) hx hb dX11_readAll_34 (by decide) ?_
  refine va_put (D := (dC, dI)) (ci := 11) (v := .int 0) (ty := tyX11 42) (C := RX11) (T := TX11) (N := 79) hx hb hts inB_11 tyX11 tyX11_ok nmX11 hown hE.1 hP hD hS 0 rfl rfl 42 (by decide) (hts _ k_1362) (fun _ h9 => h9) rfl (tyX11_ok 42 (by decide)) rfl rfl (Nat.le_of_ble_eq_true rfl) dX11_readAll_35 (fun H locs hP hD hS => ?_)
  have hP : va_P (dC, dI) vwCl [(h0, .inr (11, mFs r mv0))] H := hP
  have hD : va_D A [(h0, .inr (11, mFs r mv0))] := hD
  refine lv_aload_n hx hb dX11_readAll_38 rfl (lv_at hl 0 rfl) ?_
  refine lv_bipush (v := 10) hx hb dX11_readAll_39 (by decide) ?_
  refine va_put (D := (dC, dI)) (ci := 11) (v := .int 10) (ty := tyX11 43) (C := RX11) (T := TX11) (N := 79) hx hb hts inB_11 tyX11 tyX11_ok nmX11 hown hE.1 hP hD hS 0 rfl rfl 43 (by decide) (hts _ k_1363) (fun _ h9 => h9) rfl (tyX11_ok 43 (by decide)) rfl rfl (Nat.le_of_ble_eq_true rfl) dX11_readAll_41 (fun H locs hP hD hS => ?_)
  have hP : va_P (dC, dI) vwCl [(h0, .inr (11, mFs r (upd mv0 43 10)))] H := hP
  have hD : va_D A [(h0, .inr (11, mFs r (upd mv0 43 10)))] := hD
  refine lv_aload_n hx hb dX11_readAll_44 rfl (lv_at hl 0 rfl) ?_
  refine lv_sipush (v := 150) hx hb dX11_readAll_45 (by decide) ?_
  refine va_put (D := (dC, dI)) (ci := 11) (v := .int 150) (ty := tyX11 44) (C := RX11) (T := TX11) (N := 79) hx hb hts inB_11 tyX11 tyX11_ok nmX11 hown hE.1 hP hD hS 0 rfl rfl 44 (by decide) (hts _ k_1364) (fun _ h9 => h9) rfl (tyX11_ok 44 (by decide)) rfl rfl (Nat.le_of_ble_eq_true rfl) dX11_readAll_48 (fun H locs hP hD hS => ?_)
  have hP : va_P (dC, dI) vwCl [(h0, .inr (11, mFs r (upd (upd mv0 43 10) 44 150)))] H := hP
  have hD : va_D A [(h0, .inr (11, mFs r (upd (upd mv0 43 10) 44 150)))] := hD
  refine lv_aload_n hx hb dX11_readAll_51 rfl (lv_at hl 0 rfl) ?_
  refine lv_iconst (v := 2) hx hb dX11_readAll_52 (by decide) ?_
  refine va_put (D := (dC, dI)) (ci := 11) (v := .int 2) (ty := tyX11 45) (C := RX11) (T := TX11) (N := 79) hx hb hts inB_11 tyX11 tyX11_ok nmX11 hown hE.1 hP hD hS 0 rfl rfl 45 (by decide) (hts _ k_1365) (fun _ h9 => h9) rfl (tyX11_ok 45 (by decide)) rfl rfl (Nat.le_of_ble_eq_true rfl) dX11_readAll_53 (fun H locs hP hD hS => ?_)
  have hP : va_P (dC, dI) vwCl [(h0, .inr (11, mFs r (upd (upd (upd mv0 43 10) 44 150) 45 2)))] H := hP
  have hD : va_D A [(h0, .inr (11, mFs r (upd (upd (upd mv0 43 10) 44 150) 45 2)))] := hD
  refine lv_aload_n hx hb dX11_readAll_56 rfl (lv_at hl 0 rfl) ?_
  refine lv_iconst (v := 0) hx hb dX11_readAll_57 (by decide) ?_
  refine va_put (D := (dC, dI)) (ci := 11) (v := .int 0) (ty := tyX11 46) (C := RX11) (T := TX11) (N := 79) hx hb hts inB_11 tyX11 tyX11_ok nmX11 hown hE.1 hP hD hS 0 rfl rfl 46 (by decide) (hts _ k_1366) (fun _ h9 => h9) rfl (tyX11_ok 46 (by decide)) rfl rfl (Nat.le_of_ble_eq_true rfl) dX11_readAll_58 (fun H locs hP hD hS => ?_)
  have hP : va_P (dC, dI) vwCl [(h0, .inr (11, mFs r (upd (upd (upd mv0 43 10) 44 150) 45 2)))] H := hP
  have hD : va_D A [(h0, .inr (11, mFs r (upd (upd (upd mv0 43 10) 44 150) 45 2)))] := hD
  refine lv_aload_n hx hb dX11_readAll_61 rfl (lv_at hl 0 rfl) ?_
  refine lv_iconst (v := 0) hx hb dX11_readAll_62 (by decide) ?_
  refine va_put (D := (dC, dI)) (ci := 11) (v := .int 0) (ty := tyX11 47) (C := RX11) (T := TX11) (N := 79) hx hb hts inB_11 tyX11 tyX11_ok nmX11 hown hE.1 hP hD hS 0 rfl rfl 47 (by decide) (hts _ k_1367) (fun _ h9 => h9) rfl (tyX11_ok 47 (by decide)) rfl rfl (Nat.le_of_ble_eq_true rfl) dX11_readAll_63 (fun H locs hP hD hS => ?_)
  have hP : va_P (dC, dI) vwCl [(h0, .inr (11, mFs r (upd (upd (upd mv0 43 10) 44 150) 45 2)))] H := hP
  have hD : va_D A [(h0, .inr (11, mFs r (upd (upd (upd mv0 43 10) 44 150) 45 2)))] := hD
  refine lv_aload_n hx hb dX11_readAll_66 rfl (lv_at hl 0 rfl) ?_
  refine lv_iconst (v := 0) hx hb dX11_readAll_67 (by decide) ?_
  refine va_put (D := (dC, dI)) (ci := 11) (v := .int 0) (ty := tyX11 54) (C := RX11) (T := TX11) (N := 79) hx hb hts inB_11 tyX11 tyX11_ok nmX11 hown hE.1 hP hD hS 0 rfl rfl 54 (by decide) (hts _ k_1374) (fun _ h9 => h9) rfl (tyX11_ok 54 (by decide)) rfl rfl (Nat.le_of_ble_eq_true rfl) dX11_readAll_68 (fun H locs hP hD hS => ?_)
  have hP : va_P (dC, dI) vwCl [(h0, .inr (11, mFs r (upd (upd (upd mv0 43 10) 44 150) 45 2)))] H := hP
  have hD : va_D A [(h0, .inr (11, mFs r (upd (upd (upd mv0 43 10) 44 150) 45 2)))] := hD
  refine lv_aload_n hx hb dX11_readAll_71 rfl (lv_at hl 0 rfl) ?_
  refine lv_iconst (v := 0) hx hb dX11_readAll_72 (by decide) ?_
  refine va_put (D := (dC, dI)) (ci := 11) (v := .int 0) (ty := tyX11 55) (C := RX11) (T := TX11) (N := 79) hx hb hts inB_11 tyX11 tyX11_ok nmX11 hown hE.1 hP hD hS 0 rfl rfl 55 (by decide) (hts _ k_1375) (fun _ h9 => h9) rfl (tyX11_ok 55 (by decide)) rfl rfl (Nat.le_of_ble_eq_true rfl) dX11_readAll_73 (fun H locs hP hD hS => ?_)
  have hP : va_P (dC, dI) vwCl [(h0, .inr (11, mFs r (upd (upd (upd mv0 43 10) 44 150) 45 2)))] H := hP
  have hD : va_D A [(h0, .inr (11, mFs r (upd (upd (upd mv0 43 10) 44 150) 45 2)))] := hD
  refine lv_aload_n hx hb dX11_readAll_76 rfl (lv_at hl 0 rfl) ?_
  refine lv_iconst (v := 0) hx hb dX11_readAll_77 (by decide) ?_
  refine va_put (D := (dC, dI)) (ci := 11) (v := .int 0) (ty := tyX11 56) (C := RX11) (T := TX11) (N := 79) hx hb hts inB_11 tyX11 tyX11_ok nmX11 hown hE.1 hP hD hS 0 rfl rfl 56 (by decide) (hts _ k_1376) (fun _ h9 => h9) rfl (tyX11_ok 56 (by decide)) rfl rfl (Nat.le_of_ble_eq_true rfl) dX11_readAll_78 (fun H locs hP hD hS => ?_)
  have hP : va_P (dC, dI) vwCl [(h0, .inr (11, mFs r (upd (upd (upd mv0 43 10) 44 150) 45 2)))] H := hP
  have hD : va_D A [(h0, .inr (11, mFs r (upd (upd (upd mv0 43 10) 44 150) 45 2)))] := hD
  refine lv_aload_n hx hb dX11_readAll_81 rfl (lv_at hl 0 rfl) ?_
  refine lv_iconst (v := 0) hx hb dX11_readAll_82 (by decide) ?_
  refine va_put (D := (dC, dI)) (ci := 11) (v := .int 0) (ty := tyX11 57) (C := RX11) (T := TX11) (N := 79) hx hb hts inB_11 tyX11 tyX11_ok nmX11 hown hE.1 hP hD hS 0 rfl rfl 57 (by decide) (hts _ k_1377) (fun _ h9 => h9) rfl (tyX11_ok 57 (by decide)) rfl rfl (Nat.le_of_ble_eq_true rfl) dX11_readAll_83 (fun H locs hP hD hS => ?_)
  have hP : va_P (dC, dI) vwCl [(h0, .inr (11, mFs r (upd (upd (upd mv0 43 10) 44 150) 45 2)))] H := hP
  have hD : va_D A [(h0, .inr (11, mFs r (upd (upd (upd mv0 43 10) 44 150) 45 2)))] := hD
  refine lv_aload_n hx hb dX11_readAll_86 rfl (lv_at hl 0 rfl) ?_
  refine lv_iconst (v := 0) hx hb dX11_readAll_87 (by decide) ?_
  refine va_put (D := (dC, dI)) (ci := 11) (v := .int 0) (ty := tyX11 58) (C := RX11) (T := TX11) (N := 79) hx hb hts inB_11 tyX11 tyX11_ok nmX11 hown hE.1 hP hD hS 0 rfl rfl 58 (by decide) (hts _ k_1378) (fun _ h9 => h9) rfl (tyX11_ok 58 (by decide)) rfl rfl (Nat.le_of_ble_eq_true rfl) dX11_readAll_88 (fun H locs hP hD hS => ?_)
  have hP : va_P (dC, dI) vwCl [(h0, .inr (11, mFs r (upd (upd (upd mv0 43 10) 44 150) 45 2)))] H := hP
  have hD : va_D A [(h0, .inr (11, mFs r (upd (upd (upd mv0 43 10) 44 150) 45 2)))] := hD
  refine lv_aload_n hx hb dX11_readAll_91 rfl (lv_at hl 0 rfl) ?_
  refine lv_iconst (v := 0) hx hb dX11_readAll_92 (by decide) ?_
  refine va_put (D := (dC, dI)) (ci := 11) (v := .int 0) (ty := tyX11 24) (C := RX11) (T := TX11) (N := 79) hx hb hts inB_11 tyX11 tyX11_ok nmX11 hown hE.1 hP hD hS 0 rfl rfl 24 (by decide) (hts _ k_1344) (fun _ h9 => h9) rfl (tyX11_ok 24 (by decide)) rfl rfl (Nat.le_of_ble_eq_true rfl) dX11_readAll_93 (fun H locs hP hD hS => ?_)
  have hP : va_P (dC, dI) vwCl [(h0, .inr (11, mFs r (upd (upd (upd mv0 43 10) 44 150) 45 2)))] H := hP
  have hD : va_D A [(h0, .inr (11, mFs r (upd (upd (upd mv0 43 10) 44 150) 45 2)))] := hD
  refine lv_aload_n hx hb dX11_readAll_96 rfl (lv_at hl 0 rfl) ?_
  refine lv_iconst (v := 0) hx hb dX11_readAll_97 (by decide) ?_
  refine va_put (D := (dC, dI)) (ci := 11) (v := .int 0) (ty := tyX11 20) (C := RX11) (T := TX11) (N := 79) hx hb hts inB_11 tyX11 tyX11_ok nmX11 hown hE.1 hP hD hS 0 rfl rfl 20 (by decide) (hts _ k_1340) (fun _ h9 => h9) rfl (tyX11_ok 20 (by decide)) rfl rfl (Nat.le_of_ble_eq_true rfl) dX11_readAll_98 (fun H locs hP hD hS => ?_)
  have hP : va_P (dC, dI) vwCl [(h0, .inr (11, mFs r (upd (upd (upd mv0 43 10) 44 150) 45 2)))] H := hP
  have hD : va_D A [(h0, .inr (11, mFs r (upd (upd (upd mv0 43 10) 44 150) 45 2)))] := hD
  refine lv_aload_n hx hb dX11_readAll_101 rfl (lv_at hl 0 rfl) ?_
  refine caVv (n := 0) (wr := []) (rest := []) hx hb hml hown hts hE hP hD hS hA (cnX11_token_1 l dC dI cy h0 r) k_1579 k_1581 k_42 k_114 k_1582 (by decide +kernel) ⟨Nat.le_of_ble_eq_true rfl, Nat.le_of_ble_eq_true rfl⟩ [0] [] rfl rfl rfl (by decide) (by decide) (by decide) 0 11 rfl rfl rfl hl.1 rfl (Nat.le_of_ble_eq_true rfl) dX11_readAll_102 ⟨Nat.le_of_ble_eq_true rfl, Nat.le_of_ble_eq_true rfl⟩ (fun u H locs hw hP hD hS => ?_)
  have hP : va_P (dC, dI) vwCl [(h0, .inr (11, mFs r (upd (upd (upd mv0 43 10) 44 150) 45 2)))] H := hP
  have hD : va_D A [(h0, .inr (11, mFs r (upd (upd (upd mv0 43 10) 44 150) 45 2)))] := hD
  refine lv_aload_n hx hb dX11_readAll_105 rfl (lv_at hl 0 rfl) ?_
  refine va_get (D := (dC, dI)) (ci := 11) (v := .int 0) (C := RX11) (T := TX11) (N := 79) hx hb hts inB_11 hown hE.1 hP 0 rfl rfl 2 (by decide) (hts _ k_1322) (fun _ h9 => h9) rfl dX11_readAll_106 ?_
  refine lv_if_ne (tgt := 126) hx hb dX11_readAll_109 (by decide) (fun c0 => absurd (by decide) c0) (fun _ => ?_)
  refine lv_aload_n hx hb dX11_readAll_112 rfl (lv_at hl 0 rfl) ?_
  refine va_get (D := (dC, dI)) (ci := 11) (v := .int 0) (C := RX11) (T := TX11) (N := 79) hx hb hts inB_11 hown hE.1 hP 0 rfl rfl 6 (by decide) (hts _ k_1326) (fun _ h9 => h9) rfl dX11_readAll_113 ?_
  refine lv_if_eq (tgt := 126) hx hb dX11_readAll_116 (by decide) (fun _ => ?_) (fun c0 => absurd (by decide) c0)
  exact ret () _ _ _ _ _ _ trivial (hP.sub [0] rfl) (hD.sub [0] (by decide) rfl) hS dX11_readAll_126 (Nat.le_of_ble_eq_true rfl) (Nat.le_of_ble_eq_true rfl)
theorem po_X11_begin_146 (i1 : Nat) (gi1 : 0 ≤ i1) (hi1 : i1 ≤ 39) (c2 : 39 ≤ (nI (i1))) : i1 = 39 := by have ti_0 : (nI (i1)).toInt = (((i1 : Nat)) : Int) := nI_toInt (by omega); simp only [fa_lt, fa_le, fa_eq, tl_39, ti_0] at *; omega
theorem po_X11_begin_147 (i1 : Nat) (gi1 : 0 ≤ i1) (hi1 : i1 ≤ 39) (c2 : ¬ 39 ≤ (nI (i1))) : i1 < 39 := by have ti_0 : (nI (i1)).toInt = (((i1 : Nat)) : Int) := nI_toInt (by omega); simp only [fa_lt, fa_le, fa_eq, tl_39, ti_0] at *; omega
set_option maxHeartbeats 4000000 in
set_option maxRecDepth 100000 in
theorem cnX11_begin_1 (l : Launch) (dC : Nat → ClassId) (dI : Nat → Nat → Nat) (cy : Nat → ClassId) (h0 : Nat) (r : Nat → Nat) : ctV l (dC, dI) cy yX11_begin cX11_begin 2 1 60 0 0 Unit [.ref h0] [(h0, .inr (11, mFs r (upd (upd (upd mv0 43 10) 44 150) 45 2))), ((r 60), .inl (cy 1, 39, .inl zF))] (fun _ => True) (fun u => [(h0, .inr (11, mFs r (upd (upd (upd mv0 43 10) 44 150) 45 2))), ((r 60), .inl (cy 1, 39, .inl zF))]) := by
  refine ctV_of (by decide) (Nat.le_of_ble_eq_true rfl) (fun p e s m below meth c A ls Q hx hb hml hts hown hnm hE hP hD hA hl ret => ?_)
  have hown : s.vm.findClass RX11 = some m.cls := hown
  have hS : va_S A s.heap s.heap [] := va_S.rf
  have hl : lv_has ls 2 [(0, .ref h0)] := hl
  refine lv_iconst (v := 0) hx hb dX11_begin_0 (by decide) ?_
  refine lv_istore_n (lv' := [(1, .int 0), (0, .ref h0)]) hx hb dX11_begin_1 rfl hl (by decide) rfl (fun ls hl => ?_)
  have lp1 : ∀ (n i1 : Nat), 0 ≤ i1 → i1 ≤ 39 → 39 < i1 + n → ∀ (H : Heap) (locs : List Loc) (ls : Array Slot), va_P (dC, dI) vwCl [(h0, .inr (11, mFs r (upd (upd (upd mv0 43 10) 44 150) 45 2))), ((r 60), .inl (cy 1, 39, .inl zF))] H → va_D A [(h0, .inr (11, mFs r (upd (upd (upd mv0 43 10) 44 150) 45 2))), ((r 60), .inl (cy 1, 39, .inl zF))] → va_S A s.heap H locs → lv_has ls 2 [(1, .int (nI (i1))), (0, .ref h0)] → W p l e { frames := 1, cells := 0, slots := 0, locals := 60 } s m ([.ref h0] : List Value).toArray below meth c H locs 0 0 Q (F0 m 2 ls []) := by
    intro n
    induction n with
    | zero => intro i1 h0 h1 h2; exact absurd h2 (by omega)
    | succ n ih1 =>
      intro i1 hloi1 hi1 hin H locs ls hP hD hS hl
      refine lv_iload_n hx hb dX11_begin_2 rfl (lv_at hl 0 rfl) ?_
      refine lv_bipush (v := 39) hx hb dX11_begin_3 (by decide) ?_
      refine lv_icmp_ge (tgt := 21) hx hb dX11_begin_5 (by decide) (fun c2 => ?_) (fun c2 => ?_)
      · skip
        have hsi1 : i1 = 39 := (po_X11_begin_146 i1 hloi1 hi1 c2)
        subst hsi1
        refine lv_iconst (v := 0) hx hb dX11_begin_21 (by decide) ?_
        refine lv_istore_n (lv' := [(1, .int 0), (0, .ref h0)]) hx hb dX11_begin_22 rfl hl (by decide) rfl (fun ls hl => ?_)
        refine lv_iload_n hx hb dX11_begin_23 rfl (lv_at hl 0 rfl) ?_
        refine lv_aload_n hx hb dX11_begin_24 rfl (lv_at hl 1 rfl) ?_
        refine va_get (D := (dC, dI)) (ci := 11) (v := .int 0) (C := RX11) (T := TX11) (N := 79) hx hb hts inB_11 hown hE.1 hP 0 rfl rfl 48 (by decide) (hts _ k_1368) (fun _ h9 => h9) rfl dX11_begin_25 ?_
        refine lv_icmp_ge (tgt := 59) hx hb dX11_begin_28 (by decide) (fun _ => ?_) (fun c0 => absurd (by decide) c0)
        refine lv_iconst (v := 0) hx hb dX11_begin_59 (by decide) ?_
        refine lv_istore_n (lv' := [(1, .int 0), (0, .ref h0)]) hx hb dX11_begin_60 rfl hl (by decide) rfl (fun ls hl => ?_)
        refine lv_iload_n hx hb dX11_begin_61 rfl (lv_at hl 0 rfl) ?_
        refine lv_aload_n hx hb dX11_begin_62 rfl (lv_at hl 1 rfl) ?_
        refine va_get (D := (dC, dI)) (ci := 11) (v := .int 0) (C := RX11) (T := TX11) (N := 79) hx hb hts inB_11 hown hE.1 hP 0 rfl rfl 49 (by decide) (hts _ k_1369) (fun _ h9 => h9) rfl dX11_begin_63 ?_
        refine lv_icmp_ge (tgt := 135) hx hb dX11_begin_66 (by decide) (fun _ => ?_) (fun c0 => absurd (by decide) c0)
        exact ret () _ _ _ _ _ _ trivial (hP.sub [0, 1] rfl) (hD.sub [0, 1] (by decide) rfl) hS dX11_begin_135 (Nat.le_of_ble_eq_true rfl) (Nat.le_of_ble_eq_true rfl)
      · skip
        have hsi1 : i1 < 39 := (po_X11_begin_147 i1 hloi1 hi1 c2)
        refine lv_aload_n hx hb dX11_begin_8 rfl (lv_at hl 1 rfl) ?_
        refine va_get (D := (dC, dI)) (ci := 11) (v := .ref (r 60)) (C := RX11) (T := TX11) (N := 79) hx hb hts inB_11 hown hE.1 hP 0 rfl rfl 60 (by decide) (hts _ k_1380) (fun _ h9 => h9) rfl dX11_begin_9 ?_
        refine lv_iload_n hx hb dX11_begin_12 rfl (lv_at hl 0 rfl) ?_
        refine lv_iconst (v := 0) hx hb dX11_begin_13 (by decide) ?_
        refine stI (k := (i1)) hx hb hE hP hD hS 1 rfl (vp_in_nI (by omega) (by decide)) (nI_clamp (by omega)) dX11_begin_14 (fun H locs hP hD hS => ?_)
        have eU : upd zF (i1) 0 = zF := upd_same rfl
        rw [eU] at hP hD
        have hP : va_P (dC, dI) vwCl [(h0, .inr (11, mFs r (upd (upd (upd mv0 43 10) 44 150) 45 2))), ((r 60), .inl (cy 1, 39, .inl zF))] H := hP
        have hD : va_D A [(h0, .inr (11, mFs r (upd (upd (upd mv0 43 10) 44 150) 45 2))), ((r 60), .inl (cy 1, 39, .inl zF))] := hD
        refine lv_iinc (v := (nI (i1 + 1))) (lv' := [(1, .int (nI (i1 + 1))), (0, .ref h0)]) hx hb dX11_begin_15 hl (k := 0) rfl (nI_1 (i1)) (by decide) rfl (fun ls hl => ?_)
        refine lv_goto (tgt := 2) hx hb dX11_begin_18 (by decide) ?_
        exact ih1 (i1 + 1) (by omega) (by omega) (by omega) _ _ _ (hP.sub [0, 1] rfl) (hD.sub [0, 1] (by decide) rfl) hS (lv_sub hl [0, 1] rfl)
  exact lp1 40 0 (by decide) (by decide) (by decide) _ _ _ (hP.sub [0, 1] rfl) (hD.sub [0, 1] (by decide) rfl) hS (lv_sub hl [0, 1] rfl)
theorem po_X11_keepAir_152 (i1 : Nat) (gi1 : 0 ≤ i1) (hi1 : i1 ≤ 39) (c2 : 39 ≤ (nI (i1))) : i1 = 39 := by have ti_0 : (nI (i1)).toInt = (((i1 : Nat)) : Int) := nI_toInt (by omega); simp only [fa_lt, fa_le, fa_eq, tl_39, ti_0] at *; omega
theorem po_X11_keepAir_153 (i1 : Nat) (gi1 : 0 ≤ i1) (hi1 : i1 ≤ 39) (c2 : ¬ 39 ≤ (nI (i1))) : i1 < 39 := by have ti_0 : (nI (i1)).toInt = (((i1 : Nat)) : Int) := nI_toInt (by omega); simp only [fa_lt, fa_le, fa_eq, tl_39, ti_0] at *; omega
set_option maxHeartbeats 4000000 in
set_option maxRecDepth 100000 in
theorem cnX11_keepAir_1 (l : Launch) (dC : Nat → ClassId) (dI : Nat → Nat → Nat) (cy : Nat → ClassId) (h0 : Nat) (r : Nat → Nat) : ctV l (dC, dI) cy yX11_keepAir cX11_keepAir 2 1 60 0 0 Unit [.ref h0] [(h0, .inr (11, mFs r (upd (upd (upd mv0 43 10) 44 150) 45 2))), ((r 60), .inl (cy 1, 39, .inl zF)), ((r 59), .inl (cy 1, 39, .inl zF))] (fun _ => True) (fun u => [(h0, .inr (11, mFs r (upd (upd (upd mv0 43 10) 44 150) 45 2))), ((r 60), .inl (cy 1, 39, .inl zF)), ((r 59), .inl (cy 1, 39, .inl zF))]) := by
  refine ctV_of (by decide) (Nat.le_of_ble_eq_true rfl) (fun p e s m below meth c A ls Q hx hb hml hts hown hnm hE hP hD hA hl ret => ?_)
  have hown : s.vm.findClass RX11 = some m.cls := hown
  have hS : va_S A s.heap s.heap [] := va_S.rf
  have hl : lv_has ls 2 [(0, .ref h0)] := hl
  refine lv_iconst (v := 0) hx hb dX11_keepAir_0 (by decide) ?_
  refine lv_istore_n (lv' := [(1, .int 0), (0, .ref h0)]) hx hb dX11_keepAir_1 rfl hl (by decide) rfl (fun ls hl => ?_)
  have lp1 : ∀ (n i1 : Nat), 0 ≤ i1 → i1 ≤ 39 → 39 < i1 + n → ∀ (H : Heap) (locs : List Loc) (ls : Array Slot), va_P (dC, dI) vwCl [(h0, .inr (11, mFs r (upd (upd (upd mv0 43 10) 44 150) 45 2))), ((r 60), .inl (cy 1, 39, .inl zF)), ((r 59), .inl (cy 1, 39, .inl zF))] H → va_D A [(h0, .inr (11, mFs r (upd (upd (upd mv0 43 10) 44 150) 45 2))), ((r 60), .inl (cy 1, 39, .inl zF)), ((r 59), .inl (cy 1, 39, .inl zF))] → va_S A s.heap H locs → lv_has ls 2 [(1, .int (nI (i1))), (0, .ref h0)] → W p l e { frames := 1, cells := 0, slots := 0, locals := 60 } s m ([.ref h0] : List Value).toArray below meth c H locs 0 0 Q (F0 m 2 ls []) := by
    intro n
    induction n with
    | zero => intro i1 h0 h1 h2; exact absurd h2 (by omega)
    | succ n ih1 =>
      intro i1 hloi1 hi1 hin H locs ls hP hD hS hl
      refine lv_iload_n hx hb dX11_keepAir_2 rfl (lv_at hl 0 rfl) ?_
      refine lv_bipush (v := 39) hx hb dX11_keepAir_3 (by decide) ?_
      refine lv_icmp_ge (tgt := 26) hx hb dX11_keepAir_5 (by decide) (fun c2 => ?_) (fun c2 => ?_)
      · skip
        have hsi1 : i1 = 39 := (po_X11_keepAir_152 i1 hloi1 hi1 c2)
        subst hsi1
        exact ret () _ _ _ _ _ _ trivial (hP.sub [0, 1, 2] rfl) (hD.sub [0, 1, 2] (by decide) rfl) hS dX11_keepAir_26 (Nat.le_of_ble_eq_true rfl) (Nat.le_of_ble_eq_true rfl)
      · skip
        have hsi1 : i1 < 39 := (po_X11_keepAir_153 i1 hloi1 hi1 c2)
        refine lv_aload_n hx hb dX11_keepAir_8 rfl (lv_at hl 1 rfl) ?_
        refine va_get (D := (dC, dI)) (ci := 11) (v := .ref (r 59)) (C := RX11) (T := TX11) (N := 79) hx hb hts inB_11 hown hE.1 hP 0 rfl rfl 59 (by decide) (hts _ k_1379) (fun _ h9 => h9) rfl dX11_keepAir_9 ?_
        refine lv_iload_n hx hb dX11_keepAir_12 rfl (lv_at hl 0 rfl) ?_
        refine lv_aload_n hx hb dX11_keepAir_13 rfl (lv_at hl 1 rfl) ?_
        refine va_get (D := (dC, dI)) (ci := 11) (v := .ref (r 60)) (C := RX11) (T := TX11) (N := 79) hx hb hts inB_11 hown hE.1 hP 0 rfl rfl 60 (by decide) (hts _ k_1380) (fun _ h9 => h9) rfl dX11_keepAir_14 ?_
        refine lv_iload_n hx hb dX11_keepAir_17 rfl (lv_at hl 0 rfl) ?_
        refine ldI (k := (i1)) (v := 0) hx hb hE hP 1 rfl (vp_in_nI (by omega) (by decide)) (nI_clamp (by omega)) rfl dX11_keepAir_18 ?_
        refine stI (k := (i1)) hx hb hE hP hD hS 2 rfl (vp_in_nI (by omega) (by decide)) (nI_clamp (by omega)) dX11_keepAir_19 (fun H locs hP hD hS => ?_)
        have eU : upd zF (i1) 0 = zF := upd_same rfl
        rw [eU] at hP hD
        have hP : va_P (dC, dI) vwCl [(h0, .inr (11, mFs r (upd (upd (upd mv0 43 10) 44 150) 45 2))), ((r 60), .inl (cy 1, 39, .inl zF)), ((r 59), .inl (cy 1, 39, .inl zF))] H := hP
        have hD : va_D A [(h0, .inr (11, mFs r (upd (upd (upd mv0 43 10) 44 150) 45 2))), ((r 60), .inl (cy 1, 39, .inl zF)), ((r 59), .inl (cy 1, 39, .inl zF))] := hD
        refine lv_iinc (v := (nI (i1 + 1))) (lv' := [(1, .int (nI (i1 + 1))), (0, .ref h0)]) hx hb dX11_keepAir_20 hl (k := 0) rfl (nI_1 (i1)) (by decide) rfl (fun ls hl => ?_)
        refine lv_goto (tgt := 2) hx hb dX11_keepAir_23 (by decide) ?_
        exact ih1 (i1 + 1) (by omega) (by omega) (by omega) _ _ _ (hP.sub [0, 1, 2] rfl) (hD.sub [0, 1, 2] (by decide) rfl) hS (lv_sub hl [0, 1] rfl)
  exact lp1 40 0 (by decide) (by decide) (by decide) _ _ _ (hP.sub [0, 1, 2] rfl) (hD.sub [0, 1, 2] (by decide) rfl) hS (lv_sub hl [0, 1] rfl)
theorem pt_X11_regiment_162 : (0 : Int32) = F_regiment  := by
  unfold F_regiment
  (repeat' split)
  all_goals first | rfl | assumption | (exfalso; simp only [fa_lt, fa_le, fa_eq, tl_0] at *; omega) | (simp only [fa_lt, fa_le, fa_eq, tl_0] at *; omega)
set_option maxHeartbeats 4000000 in
set_option maxRecDepth 100000 in
theorem cnX11_regiment_1 (l : Launch) (dC : Nat → ClassId) (dI : Nat → Nat → Nat) (cy : Nat → ClassId) (h0 : Nat) (r : Nat → Nat) : ctI l (dC, dI) cy yX11_regiment cX11_regiment 2 .int 4 123 0 0 Unit [.ref h0] [(h0, .inr (11, mFs r mv0)), ((r 60), .inl (cy 1, 39, .inl zF)), ((r 59), .inl (cy 1, 39, .inl zF)), ((r 77), .inl (cy 3, 3, .inl zF))] (fun r _ => r = F_regiment ) (fun u => []) := by
  refine ctI_of (by decide) (Nat.le_of_ble_eq_true rfl) (fun p e s m below meth c A ls Q hx hb hml hts hown hE hP hD hA hl ret => ?_)
  have hown : s.vm.findClass RX11 = some m.cls := hown
  have hS : va_S A s.heap s.heap [] := va_S.rf
  have hl : lv_has ls 2 [(0, .ref h0)] := hl
  refine lv_aload_n hx hb dX11_regiment_0 rfl (lv_at hl 0 rfl) ?_
  refine caVv (n := 0) (wr := [((r 60), .inl (cy 1, 39, .inl zF)), ((r 59), .inl (cy 1, 39, .inl zF)), ((r 77), .inl (cy 3, 3, .inl zF))]) (rest := []) hx hb hml hown hts hE hP hD hS hA (cnX11_readAll_1 l dC dI cy h0 r) k_1575 k_1577 k_41 k_114 k_1578 (by decide +kernel) ⟨Nat.le_of_ble_eq_true rfl, Nat.le_of_ble_eq_true rfl⟩ [0] [1, 2, 3] rfl rfl rfl (by decide) (by decide) (by decide) 0 11 rfl rfl rfl hl.1 rfl (Nat.le_of_ble_eq_true rfl) dX11_regiment_1 ⟨Nat.le_of_ble_eq_true rfl, Nat.le_of_ble_eq_true rfl⟩ (fun u H locs hw hP hD hS => ?_)
  have hP : va_P (dC, dI) vwCl [((r 60), .inl (cy 1, 39, .inl zF)), ((r 59), .inl (cy 1, 39, .inl zF)), ((r 77), .inl (cy 3, 3, .inl zF)), (h0, .inr (11, mFs r (upd (upd (upd mv0 43 10) 44 150) 45 2)))] H := hP
  have hD : va_D A [((r 60), .inl (cy 1, 39, .inl zF)), ((r 59), .inl (cy 1, 39, .inl zF)), ((r 77), .inl (cy 3, 3, .inl zF)), (h0, .inr (11, mFs r (upd (upd (upd mv0 43 10) 44 150) 45 2)))] := hD
  refine lv_aload_n hx hb dX11_regiment_4 rfl (lv_at hl 0 rfl) ?_
  refine va_get (D := (dC, dI)) (ci := 11) (v := .int 0) (C := RX11) (T := TX11) (N := 79) hx hb hts inB_11 hown hE.1 hP 3 rfl rfl 2 (by decide) (hts _ k_1322) (fun _ h9 => h9) rfl dX11_regiment_5 ?_
  refine lv_if_le (tgt := 13) hx hb dX11_regiment_8 (by decide) (fun _ => ?_) (fun c0 => absurd (by decide) c0)
  refine lv_aload_n hx hb dX11_regiment_13 rfl (lv_at hl 0 rfl) ?_
  refine lv_aload_n hx hb dX11_regiment_14 rfl (lv_at hl 0 rfl) ?_
  refine va_get (D := (dC, dI)) (ci := 11) (v := .int 0) (C := RX11) (T := TX11) (N := 79) hx hb hts inB_11 hown hE.1 hP 3 rfl rfl 41 (by decide) (hts _ k_1361) (fun _ h9 => h9) rfl dX11_regiment_15 ?_
  refine va_put (D := (dC, dI)) (ci := 11) (v := .int 0) (ty := tyX11 48) (C := RX11) (T := TX11) (N := 79) hx hb hts inB_11 tyX11 tyX11_ok nmX11 hown hE.1 hP hD hS 3 rfl rfl 48 (by decide) (hts _ k_1368) (fun _ h9 => h9) rfl (tyX11_ok 48 (by decide)) rfl rfl (Nat.le_of_ble_eq_true rfl) dX11_regiment_18 (fun H locs hP hD hS => ?_)
  have hP : va_P (dC, dI) vwCl [((r 60), .inl (cy 1, 39, .inl zF)), ((r 59), .inl (cy 1, 39, .inl zF)), ((r 77), .inl (cy 3, 3, .inl zF)), (h0, .inr (11, mFs r (upd (upd (upd mv0 43 10) 44 150) 45 2)))] H := hP
  have hD : va_D A [((r 60), .inl (cy 1, 39, .inl zF)), ((r 59), .inl (cy 1, 39, .inl zF)), ((r 77), .inl (cy 3, 3, .inl zF)), (h0, .inr (11, mFs r (upd (upd (upd mv0 43 10) 44 150) 45 2)))] := hD
  refine lv_aload_n hx hb dX11_regiment_21 rfl (lv_at hl 0 rfl) ?_
  refine lv_aload_n hx hb dX11_regiment_22 rfl (lv_at hl 0 rfl) ?_
  refine va_get (D := (dC, dI)) (ci := 11) (v := .int 0) (C := RX11) (T := TX11) (N := 79) hx hb hts inB_11 hown hE.1 hP 3 rfl rfl 42 (by decide) (hts _ k_1362) (fun _ h9 => h9) rfl dX11_regiment_23 ?_
  refine va_put (D := (dC, dI)) (ci := 11) (v := .int 0) (ty := tyX11 49) (C := RX11) (T := TX11) (N := 79) hx hb hts inB_11 tyX11 tyX11_ok nmX11 hown hE.1 hP hD hS 3 rfl rfl 49 (by decide) (hts _ k_1369) (fun _ h9 => h9) rfl (tyX11_ok 49 (by decide)) rfl rfl (Nat.le_of_ble_eq_true rfl) dX11_regiment_26 (fun H locs hP hD hS => ?_)
  have hP : va_P (dC, dI) vwCl [((r 60), .inl (cy 1, 39, .inl zF)), ((r 59), .inl (cy 1, 39, .inl zF)), ((r 77), .inl (cy 3, 3, .inl zF)), (h0, .inr (11, mFs r (upd (upd (upd mv0 43 10) 44 150) 45 2)))] H := hP
  have hD : va_D A [((r 60), .inl (cy 1, 39, .inl zF)), ((r 59), .inl (cy 1, 39, .inl zF)), ((r 77), .inl (cy 3, 3, .inl zF)), (h0, .inr (11, mFs r (upd (upd (upd mv0 43 10) 44 150) 45 2)))] := hD
  refine lv_aload_n hx hb dX11_regiment_29 rfl (lv_at hl 0 rfl) ?_
  refine lv_aload_n hx hb dX11_regiment_30 rfl (lv_at hl 0 rfl) ?_
  refine va_get (D := (dC, dI)) (ci := 11) (v := .int 10) (C := RX11) (T := TX11) (N := 79) hx hb hts inB_11 hown hE.1 hP 3 rfl rfl 43 (by decide) (hts _ k_1363) (fun _ h9 => h9) rfl dX11_regiment_31 ?_
  refine va_put (D := (dC, dI)) (ci := 11) (v := .int 10) (ty := tyX11 50) (C := RX11) (T := TX11) (N := 79) hx hb hts inB_11 tyX11 tyX11_ok nmX11 hown hE.1 hP hD hS 3 rfl rfl 50 (by decide) (hts _ k_1370) (fun _ h9 => h9) rfl (tyX11_ok 50 (by decide)) rfl rfl (Nat.le_of_ble_eq_true rfl) dX11_regiment_34 (fun H locs hP hD hS => ?_)
  have hP : va_P (dC, dI) vwCl [((r 60), .inl (cy 1, 39, .inl zF)), ((r 59), .inl (cy 1, 39, .inl zF)), ((r 77), .inl (cy 3, 3, .inl zF)), (h0, .inr (11, mFs r (upd (upd (upd mv0 43 10) 44 150) 45 2)))] H := hP
  have hD : va_D A [((r 60), .inl (cy 1, 39, .inl zF)), ((r 59), .inl (cy 1, 39, .inl zF)), ((r 77), .inl (cy 3, 3, .inl zF)), (h0, .inr (11, mFs r (upd (upd (upd mv0 43 10) 44 150) 45 2)))] := hD
  refine lv_aload_n hx hb dX11_regiment_37 rfl (lv_at hl 0 rfl) ?_
  refine lv_aload_n hx hb dX11_regiment_38 rfl (lv_at hl 0 rfl) ?_
  refine va_get (D := (dC, dI)) (ci := 11) (v := .int 150) (C := RX11) (T := TX11) (N := 79) hx hb hts inB_11 hown hE.1 hP 3 rfl rfl 44 (by decide) (hts _ k_1364) (fun _ h9 => h9) rfl dX11_regiment_39 ?_
  refine va_put (D := (dC, dI)) (ci := 11) (v := .int 150) (ty := tyX11 51) (C := RX11) (T := TX11) (N := 79) hx hb hts inB_11 tyX11 tyX11_ok nmX11 hown hE.1 hP hD hS 3 rfl rfl 51 (by decide) (hts _ k_1371) (fun _ h9 => h9) rfl (tyX11_ok 51 (by decide)) rfl rfl (Nat.le_of_ble_eq_true rfl) dX11_regiment_42 (fun H locs hP hD hS => ?_)
  have hP : va_P (dC, dI) vwCl [((r 60), .inl (cy 1, 39, .inl zF)), ((r 59), .inl (cy 1, 39, .inl zF)), ((r 77), .inl (cy 3, 3, .inl zF)), (h0, .inr (11, mFs r (upd (upd (upd mv0 43 10) 44 150) 45 2)))] H := hP
  have hD : va_D A [((r 60), .inl (cy 1, 39, .inl zF)), ((r 59), .inl (cy 1, 39, .inl zF)), ((r 77), .inl (cy 3, 3, .inl zF)), (h0, .inr (11, mFs r (upd (upd (upd mv0 43 10) 44 150) 45 2)))] := hD
  refine lv_aload_n hx hb dX11_regiment_45 rfl (lv_at hl 0 rfl) ?_
  refine lv_aload_n hx hb dX11_regiment_46 rfl (lv_at hl 0 rfl) ?_
  refine va_get (D := (dC, dI)) (ci := 11) (v := .int 2) (C := RX11) (T := TX11) (N := 79) hx hb hts inB_11 hown hE.1 hP 3 rfl rfl 45 (by decide) (hts _ k_1365) (fun _ h9 => h9) rfl dX11_regiment_47 ?_
  refine va_put (D := (dC, dI)) (ci := 11) (v := .int 2) (ty := tyX11 52) (C := RX11) (T := TX11) (N := 79) hx hb hts inB_11 tyX11 tyX11_ok nmX11 hown hE.1 hP hD hS 3 rfl rfl 52 (by decide) (hts _ k_1372) (fun _ h9 => h9) rfl (tyX11_ok 52 (by decide)) rfl rfl (Nat.le_of_ble_eq_true rfl) dX11_regiment_50 (fun H locs hP hD hS => ?_)
  have hP : va_P (dC, dI) vwCl [((r 60), .inl (cy 1, 39, .inl zF)), ((r 59), .inl (cy 1, 39, .inl zF)), ((r 77), .inl (cy 3, 3, .inl zF)), (h0, .inr (11, mFs r (upd (upd (upd mv0 43 10) 44 150) 45 2)))] H := hP
  have hD : va_D A [((r 60), .inl (cy 1, 39, .inl zF)), ((r 59), .inl (cy 1, 39, .inl zF)), ((r 77), .inl (cy 3, 3, .inl zF)), (h0, .inr (11, mFs r (upd (upd (upd mv0 43 10) 44 150) 45 2)))] := hD
  refine lv_aload_n hx hb dX11_regiment_53 rfl (lv_at hl 0 rfl) ?_
  refine lv_aload_n hx hb dX11_regiment_54 rfl (lv_at hl 0 rfl) ?_
  refine va_get (D := (dC, dI)) (ci := 11) (v := .int 0) (C := RX11) (T := TX11) (N := 79) hx hb hts inB_11 hown hE.1 hP 3 rfl rfl 46 (by decide) (hts _ k_1366) (fun _ h9 => h9) rfl dX11_regiment_55 ?_
  refine va_put (D := (dC, dI)) (ci := 11) (v := .int 0) (ty := tyX11 53) (C := RX11) (T := TX11) (N := 79) hx hb hts inB_11 tyX11 tyX11_ok nmX11 hown hE.1 hP hD hS 3 rfl rfl 53 (by decide) (hts _ k_1373) (fun _ h9 => h9) rfl (tyX11_ok 53 (by decide)) rfl rfl (Nat.le_of_ble_eq_true rfl) dX11_regiment_58 (fun H locs hP hD hS => ?_)
  have hP : va_P (dC, dI) vwCl [((r 60), .inl (cy 1, 39, .inl zF)), ((r 59), .inl (cy 1, 39, .inl zF)), ((r 77), .inl (cy 3, 3, .inl zF)), (h0, .inr (11, mFs r (upd (upd (upd mv0 43 10) 44 150) 45 2)))] H := hP
  have hD : va_D A [((r 60), .inl (cy 1, 39, .inl zF)), ((r 59), .inl (cy 1, 39, .inl zF)), ((r 77), .inl (cy 3, 3, .inl zF)), (h0, .inr (11, mFs r (upd (upd (upd mv0 43 10) 44 150) 45 2)))] := hD
  refine lv_aload_n hx hb dX11_regiment_61 rfl (lv_at hl 0 rfl) ?_
  refine lv_aload_n hx hb dX11_regiment_62 rfl (lv_at hl 0 rfl) ?_
  refine va_get (D := (dC, dI)) (ci := 11) (v := .int 0) (C := RX11) (T := TX11) (N := 79) hx hb hts inB_11 hown hE.1 hP 3 rfl rfl 20 (by decide) (hts _ k_1340) (fun _ h9 => h9) rfl dX11_regiment_63 ?_
  refine va_put (D := (dC, dI)) (ci := 11) (v := .int 0) (ty := tyX11 21) (C := RX11) (T := TX11) (N := 79) hx hb hts inB_11 tyX11 tyX11_ok nmX11 hown hE.1 hP hD hS 3 rfl rfl 21 (by decide) (hts _ k_1341) (fun _ h9 => h9) rfl (tyX11_ok 21 (by decide)) rfl rfl (Nat.le_of_ble_eq_true rfl) dX11_regiment_66 (fun H locs hP hD hS => ?_)
  have hP : va_P (dC, dI) vwCl [((r 60), .inl (cy 1, 39, .inl zF)), ((r 59), .inl (cy 1, 39, .inl zF)), ((r 77), .inl (cy 3, 3, .inl zF)), (h0, .inr (11, mFs r (upd (upd (upd mv0 43 10) 44 150) 45 2)))] H := hP
  have hD : va_D A [((r 60), .inl (cy 1, 39, .inl zF)), ((r 59), .inl (cy 1, 39, .inl zF)), ((r 77), .inl (cy 3, 3, .inl zF)), (h0, .inr (11, mFs r (upd (upd (upd mv0 43 10) 44 150) 45 2)))] := hD
  refine lv_aload_n hx hb dX11_regiment_69 rfl (lv_at hl 0 rfl) ?_
  refine lv_aload_n hx hb dX11_regiment_70 rfl (lv_at hl 0 rfl) ?_
  refine va_get (D := (dC, dI)) (ci := 11) (v := .int 0) (C := RX11) (T := TX11) (N := 79) hx hb hts inB_11 hown hE.1 hP 3 rfl rfl 24 (by decide) (hts _ k_1344) (fun _ h9 => h9) rfl dX11_regiment_71 ?_
  refine va_put (D := (dC, dI)) (ci := 11) (v := .int 0) (ty := tyX11 25) (C := RX11) (T := TX11) (N := 79) hx hb hts inB_11 tyX11 tyX11_ok nmX11 hown hE.1 hP hD hS 3 rfl rfl 25 (by decide) (hts _ k_1345) (fun _ h9 => h9) rfl (tyX11_ok 25 (by decide)) rfl rfl (Nat.le_of_ble_eq_true rfl) dX11_regiment_74 (fun H locs hP hD hS => ?_)
  have hP : va_P (dC, dI) vwCl [((r 60), .inl (cy 1, 39, .inl zF)), ((r 59), .inl (cy 1, 39, .inl zF)), ((r 77), .inl (cy 3, 3, .inl zF)), (h0, .inr (11, mFs r (upd (upd (upd mv0 43 10) 44 150) 45 2)))] H := hP
  have hD : va_D A [((r 60), .inl (cy 1, 39, .inl zF)), ((r 59), .inl (cy 1, 39, .inl zF)), ((r 77), .inl (cy 3, 3, .inl zF)), (h0, .inr (11, mFs r (upd (upd (upd mv0 43 10) 44 150) 45 2)))] := hD
  refine lv_aload_n hx hb dX11_regiment_77 rfl (lv_at hl 0 rfl) ?_
  refine lv_aload_n hx hb dX11_regiment_78 rfl (lv_at hl 0 rfl) ?_
  refine va_get (D := (dC, dI)) (ci := 11) (v := .int 0) (C := RX11) (T := TX11) (N := 79) hx hb hts inB_11 hown hE.1 hP 3 rfl rfl 24 (by decide) (hts _ k_1344) (fun _ h9 => h9) rfl dX11_regiment_79 ?_
  refine lv_if_eq (tgt := 92) hx hb dX11_regiment_82 (by decide) (fun _ => ?_) (fun c0 => absurd (by decide) c0)
  refine lv_iconst (v := 0) hx hb dX11_regiment_92 (by decide) ?_
  refine va_put (D := (dC, dI)) (ci := 11) (v := .int 0) (ty := tyX11 18) (C := RX11) (T := TX11) (N := 79) hx hb hts inB_11 tyX11 tyX11_ok nmX11 hown hE.1 hP hD hS 3 rfl rfl 18 (by decide) (hts _ k_1338) (fun _ h9 => h9) rfl (tyX11_ok 18 (by decide)) rfl rfl (Nat.le_of_ble_eq_true rfl) dX11_regiment_93 (fun H locs hP hD hS => ?_)
  have hP : va_P (dC, dI) vwCl [((r 60), .inl (cy 1, 39, .inl zF)), ((r 59), .inl (cy 1, 39, .inl zF)), ((r 77), .inl (cy 3, 3, .inl zF)), (h0, .inr (11, mFs r (upd (upd (upd mv0 43 10) 44 150) 45 2)))] H := hP
  have hD : va_D A [((r 60), .inl (cy 1, 39, .inl zF)), ((r 59), .inl (cy 1, 39, .inl zF)), ((r 77), .inl (cy 3, 3, .inl zF)), (h0, .inr (11, mFs r (upd (upd (upd mv0 43 10) 44 150) 45 2)))] := hD
  refine lv_iconst (v := 0) hx hb dX11_regiment_96 (by decide) ?_
  refine lv_istore_n (lv' := [(1, .int 0), (0, .ref h0)]) hx hb dX11_regiment_97 rfl hl (by decide) rfl (fun ls hl => ?_)
  refine lv_iload_n hx hb dX11_regiment_98 rfl (lv_at hl 0 rfl) ?_
  refine lv_aload_n hx hb dX11_regiment_99 rfl (lv_at hl 1 rfl) ?_
  refine va_get (D := (dC, dI)) (ci := 11) (v := .int 0) (C := RX11) (T := TX11) (N := 79) hx hb hts inB_11 hown hE.1 hP 3 rfl rfl 18 (by decide) (hts _ k_1338) (fun _ h9 => h9) rfl dX11_regiment_100 ?_
  refine lv_icmp_ge (tgt := 136) hx hb dX11_regiment_103 (by decide) (fun _ => ?_) (fun c0 => absurd (by decide) c0)
  refine lv_iconst (v := 0) hx hb dX11_regiment_136 (by decide) ?_
  refine lv_istore_n (lv' := [(1, .int 0), (0, .ref h0)]) hx hb dX11_regiment_137 rfl hl (by decide) rfl (fun ls hl => ?_)
  refine lv_iload_n hx hb dX11_regiment_138 rfl (lv_at hl 0 rfl) ?_
  refine lv_aload_n hx hb dX11_regiment_139 rfl (lv_at hl 1 rfl) ?_
  refine va_get (D := (dC, dI)) (ci := 11) (v := .int 0) (C := RX11) (T := TX11) (N := 79) hx hb hts inB_11 hown hE.1 hP 3 rfl rfl 48 (by decide) (hts _ k_1368) (fun _ h9 => h9) rfl dX11_regiment_140 ?_
  refine lv_icmp_ge (tgt := 188) hx hb dX11_regiment_143 (by decide) (fun _ => ?_) (fun c0 => absurd (by decide) c0)
  refine lv_iconst (v := 0) hx hb dX11_regiment_188 (by decide) ?_
  refine lv_istore_n (lv' := [(1, .int 0), (0, .ref h0)]) hx hb dX11_regiment_189 rfl hl (by decide) rfl (fun ls hl => ?_)
  refine lv_iload_n hx hb dX11_regiment_190 rfl (lv_at hl 0 rfl) ?_
  refine lv_aload_n hx hb dX11_regiment_191 rfl (lv_at hl 1 rfl) ?_
  refine va_get (D := (dC, dI)) (ci := 11) (v := .int 0) (C := RX11) (T := TX11) (N := 79) hx hb hts inB_11 hown hE.1 hP 3 rfl rfl 49 (by decide) (hts _ k_1369) (fun _ h9 => h9) rfl dX11_regiment_192 ?_
  refine lv_icmp_ge (tgt := 252) hx hb dX11_regiment_195 (by decide) (fun _ => ?_) (fun c0 => absurd (by decide) c0)
  refine lv_aload_n hx hb dX11_regiment_252 rfl (lv_at hl 1 rfl) ?_
  refine caVv (n := 0) (wr := [((r 59), .inl (cy 1, 39, .inl zF)), ((r 77), .inl (cy 3, 3, .inl zF))]) (rest := []) hx hb hml hown hts hE hP hD hS hA (cnX11_begin_1 l dC dI cy h0 r) k_1716 k_1718 k_68 k_114 k_1719 (by decide +kernel) ⟨Nat.le_of_ble_eq_true rfl, Nat.le_of_ble_eq_true rfl⟩ [3, 0] [1, 2] rfl rfl rfl (by decide) (by decide) (by decide) 0 11 rfl rfl rfl hl.1 rfl (Nat.le_of_ble_eq_true rfl) dX11_regiment_253 ⟨Nat.le_of_ble_eq_true rfl, Nat.le_of_ble_eq_true rfl⟩ (fun u H locs hw hP hD hS => ?_)
  have hP : va_P (dC, dI) vwCl [((r 59), .inl (cy 1, 39, .inl zF)), ((r 77), .inl (cy 3, 3, .inl zF)), (h0, .inr (11, mFs r (upd (upd (upd mv0 43 10) 44 150) 45 2))), ((r 60), .inl (cy 1, 39, .inl zF))] H := hP
  have hD : va_D A [((r 59), .inl (cy 1, 39, .inl zF)), ((r 77), .inl (cy 3, 3, .inl zF)), (h0, .inr (11, mFs r (upd (upd (upd mv0 43 10) 44 150) 45 2))), ((r 60), .inl (cy 1, 39, .inl zF))] := hD
  refine lv_aload_n hx hb dX11_regiment_256 rfl (lv_at hl 1 rfl) ?_
  refine va_get (D := (dC, dI)) (ci := 11) (v := .ref (r 60)) (C := RX11) (T := TX11) (N := 79) hx hb hts inB_11 hown hE.1 hP 2 rfl rfl 60 (by decide) (hts _ k_1380) (fun _ h9 => h9) rfl dX11_regiment_257 ?_
  refine lv_bipush (v := 38) hx hb dX11_regiment_260 (by decide) ?_
  refine lv_aload_n hx hb dX11_regiment_262 rfl (lv_at hl 1 rfl) ?_
  refine va_get (D := (dC, dI)) (ci := 11) (v := .int 0) (C := RX11) (T := TX11) (N := 79) hx hb hts inB_11 hown hE.1 hP 2 rfl rfl 47 (by decide) (hts _ k_1367) (fun _ h9 => h9) rfl dX11_regiment_263 ?_
  refine stI (k := 38) hx hb hE hP hD hS 3 rfl (vp_in_nI (n := 38) (by decide) (by decide)) (nI_clamp (n := 38) (by decide)) dX11_regiment_266 (fun H locs hP hD hS => ?_)
  have eU : upd zF 38 0 = zF := upd_same rfl
  rw [eU] at hP hD
  have hP : va_P (dC, dI) vwCl [((r 59), .inl (cy 1, 39, .inl zF)), ((r 77), .inl (cy 3, 3, .inl zF)), (h0, .inr (11, mFs r (upd (upd (upd mv0 43 10) 44 150) 45 2))), ((r 60), .inl (cy 1, 39, .inl zF))] H := hP
  have hD : va_D A [((r 59), .inl (cy 1, 39, .inl zF)), ((r 77), .inl (cy 3, 3, .inl zF)), (h0, .inr (11, mFs r (upd (upd (upd mv0 43 10) 44 150) 45 2))), ((r 60), .inl (cy 1, 39, .inl zF))] := hD
  refine lv_aload_n hx hb dX11_regiment_267 rfl (lv_at hl 1 rfl) ?_
  refine caVv (n := 0) (wr := [((r 77), .inl (cy 3, 3, .inl zF))]) (rest := []) hx hb hml hown hts hE hP hD hS hA (cnX11_keepAir_1 l dC dI cy h0 r) k_1720 k_1722 k_69 k_114 k_1723 (by decide +kernel) ⟨Nat.le_of_ble_eq_true rfl, Nat.le_of_ble_eq_true rfl⟩ [2, 3, 0] [1] rfl rfl rfl (by decide) (by decide) (by decide) 0 11 rfl rfl rfl hl.1 rfl (Nat.le_of_ble_eq_true rfl) dX11_regiment_268 ⟨Nat.le_of_ble_eq_true rfl, Nat.le_of_ble_eq_true rfl⟩ (fun u H locs hw hP hD hS => ?_)
  have hP : va_P (dC, dI) vwCl [((r 77), .inl (cy 3, 3, .inl zF)), (h0, .inr (11, mFs r (upd (upd (upd mv0 43 10) 44 150) 45 2))), ((r 60), .inl (cy 1, 39, .inl zF)), ((r 59), .inl (cy 1, 39, .inl zF))] H := hP
  have hD : va_D A [((r 77), .inl (cy 3, 3, .inl zF)), (h0, .inr (11, mFs r (upd (upd (upd mv0 43 10) 44 150) 45 2))), ((r 60), .inl (cy 1, 39, .inl zF)), ((r 59), .inl (cy 1, 39, .inl zF))] := hD
  refine lv_aload_n hx hb dX11_regiment_271 rfl (lv_at hl 1 rfl) ?_
  refine lv_iconst (v := 0) hx hb dX11_regiment_272 (by decide) ?_
  refine va_put (D := (dC, dI)) (ci := 11) (v := .int 0) (ty := tyX11 62) (C := RX11) (T := TX11) (N := 79) hx hb hts inB_11 tyX11 tyX11_ok nmX11 hown hE.1 hP hD hS 1 rfl rfl 62 (by decide) (hts _ k_1382) (fun _ h9 => h9) rfl (tyX11_ok 62 (by decide)) rfl rfl (Nat.le_of_ble_eq_true rfl) dX11_regiment_273 (fun H locs hP hD hS => ?_)
  have hP : va_P (dC, dI) vwCl [((r 77), .inl (cy 3, 3, .inl zF)), (h0, .inr (11, mFs r (upd (upd (upd mv0 43 10) 44 150) 45 2))), ((r 60), .inl (cy 1, 39, .inl zF)), ((r 59), .inl (cy 1, 39, .inl zF))] H := hP
  have hD : va_D A [((r 77), .inl (cy 3, 3, .inl zF)), (h0, .inr (11, mFs r (upd (upd (upd mv0 43 10) 44 150) 45 2))), ((r 60), .inl (cy 1, 39, .inl zF)), ((r 59), .inl (cy 1, 39, .inl zF))] := hD
  refine lv_aload_n hx hb dX11_regiment_276 rfl (lv_at hl 1 rfl) ?_
  refine lv_iconst (v := 0) hx hb dX11_regiment_277 (by decide) ?_
  refine va_put (D := (dC, dI)) (ci := 11) (v := .int 0) (ty := tyX11 63) (C := RX11) (T := TX11) (N := 79) hx hb hts inB_11 tyX11 tyX11_ok nmX11 hown hE.1 hP hD hS 1 rfl rfl 63 (by decide) (hts _ k_1383) (fun _ h9 => h9) rfl (tyX11_ok 63 (by decide)) rfl rfl (Nat.le_of_ble_eq_true rfl) dX11_regiment_278 (fun H locs hP hD hS => ?_)
  have hP : va_P (dC, dI) vwCl [((r 77), .inl (cy 3, 3, .inl zF)), (h0, .inr (11, mFs r (upd (upd (upd mv0 43 10) 44 150) 45 2))), ((r 60), .inl (cy 1, 39, .inl zF)), ((r 59), .inl (cy 1, 39, .inl zF))] H := hP
  have hD : va_D A [((r 77), .inl (cy 3, 3, .inl zF)), (h0, .inr (11, mFs r (upd (upd (upd mv0 43 10) 44 150) 45 2))), ((r 60), .inl (cy 1, 39, .inl zF)), ((r 59), .inl (cy 1, 39, .inl zF))] := hD
  refine lv_aload_n hx hb dX11_regiment_281 rfl (lv_at hl 1 rfl) ?_
  refine lv_iconst (v := 0) hx hb dX11_regiment_282 (by decide) ?_
  refine va_put (D := (dC, dI)) (ci := 11) (v := .int 0) (ty := tyX11 73) (C := RX11) (T := TX11) (N := 79) hx hb hts inB_11 tyX11 tyX11_ok nmX11 hown hE.1 hP hD hS 1 rfl rfl 73 (by decide) (hts _ k_1393) (fun _ h9 => h9) rfl (tyX11_ok 73 (by decide)) rfl rfl (Nat.le_of_ble_eq_true rfl) dX11_regiment_283 (fun H locs hP hD hS => ?_)
  have hP : va_P (dC, dI) vwCl [((r 77), .inl (cy 3, 3, .inl zF)), (h0, .inr (11, mFs r (upd (upd (upd mv0 43 10) 44 150) 45 2))), ((r 60), .inl (cy 1, 39, .inl zF)), ((r 59), .inl (cy 1, 39, .inl zF))] H := hP
  have hD : va_D A [((r 77), .inl (cy 3, 3, .inl zF)), (h0, .inr (11, mFs r (upd (upd (upd mv0 43 10) 44 150) 45 2))), ((r 60), .inl (cy 1, 39, .inl zF)), ((r 59), .inl (cy 1, 39, .inl zF))] := hD
  refine lv_aload_n hx hb dX11_regiment_286 rfl (lv_at hl 1 rfl) ?_
  refine lv_iconst (v := 0) hx hb dX11_regiment_287 (by decide) ?_
  refine va_put (D := (dC, dI)) (ci := 11) (v := .int 0) (ty := tyX11 67) (C := RX11) (T := TX11) (N := 79) hx hb hts inB_11 tyX11 tyX11_ok nmX11 hown hE.1 hP hD hS 1 rfl rfl 67 (by decide) (hts _ k_1387) (fun _ h9 => h9) rfl (tyX11_ok 67 (by decide)) rfl rfl (Nat.le_of_ble_eq_true rfl) dX11_regiment_288 (fun H locs hP hD hS => ?_)
  have hP : va_P (dC, dI) vwCl [((r 77), .inl (cy 3, 3, .inl zF)), (h0, .inr (11, mFs r (upd (upd (upd mv0 43 10) 44 150) 45 2))), ((r 60), .inl (cy 1, 39, .inl zF)), ((r 59), .inl (cy 1, 39, .inl zF))] H := hP
  have hD : va_D A [((r 77), .inl (cy 3, 3, .inl zF)), (h0, .inr (11, mFs r (upd (upd (upd mv0 43 10) 44 150) 45 2))), ((r 60), .inl (cy 1, 39, .inl zF)), ((r 59), .inl (cy 1, 39, .inl zF))] := hD
  refine lv_iconst (v := 0) hx hb dX11_regiment_291 (by decide) ?_
  refine lv_istore_n (lv' := [(1, .int 0), (0, .ref h0)]) hx hb dX11_regiment_292 rfl hl (by decide) rfl (fun ls hl => ?_)
  refine lv_iload_n hx hb dX11_regiment_293 rfl (lv_at hl 0 rfl) ?_
  refine lv_iconst (v := 3) hx hb dX11_regiment_294 (by decide) ?_
  refine lv_icmp_ge (tgt := 311) hx hb dX11_regiment_295 (by decide) (fun c0 => absurd c0 (by decide)) (fun _ => ?_)
  refine lv_aload_n hx hb dX11_regiment_298 rfl (lv_at hl 1 rfl) ?_
  refine va_get (D := (dC, dI)) (ci := 11) (v := .ref (r 77)) (C := RX11) (T := TX11) (N := 79) hx hb hts inB_11 hown hE.1 hP 1 rfl rfl 77 (by decide) (hts _ k_1397) (fun _ h9 => h9) rfl dX11_regiment_299 ?_
  refine lv_iload_n hx hb dX11_regiment_302 rfl (lv_at hl 0 rfl) ?_
  refine lv_iconst (v := 0) hx hb dX11_regiment_303 (by decide) ?_
  refine stZ (k := 0) hx hb hE hP hD hS 0 rfl (vp_in_nI (n := 0) (by decide) (by decide)) (nI_clamp (n := 0) (by decide)) dX11_regiment_304 (fun H locs hP hD hS => ?_)
  have eU : upd zF 0 (vp_nar .boolean 0) = zF := upd_same rfl
  rw [eU] at hP hD
  have hP : va_P (dC, dI) vwCl [((r 77), .inl (cy 3, 3, .inl zF)), (h0, .inr (11, mFs r (upd (upd (upd mv0 43 10) 44 150) 45 2))), ((r 60), .inl (cy 1, 39, .inl zF)), ((r 59), .inl (cy 1, 39, .inl zF))] H := hP
  have hD : va_D A [((r 77), .inl (cy 3, 3, .inl zF)), (h0, .inr (11, mFs r (upd (upd (upd mv0 43 10) 44 150) 45 2))), ((r 60), .inl (cy 1, 39, .inl zF)), ((r 59), .inl (cy 1, 39, .inl zF))] := hD
  refine lv_iinc (v := 1) (lv' := [(1, .int 1), (0, .ref h0)]) hx hb dX11_regiment_305 hl (k := 0) rfl (by decide) (by decide) rfl (fun ls hl => ?_)
  refine lv_goto (tgt := 293) hx hb dX11_regiment_308 (by decide) ?_
  refine lv_iload_n hx hb dX11_regiment_293 rfl (lv_at hl 0 rfl) ?_
  refine lv_iconst (v := 3) hx hb dX11_regiment_294 (by decide) ?_
  refine lv_icmp_ge (tgt := 311) hx hb dX11_regiment_295 (by decide) (fun c0 => absurd c0 (by decide)) (fun _ => ?_)
  refine lv_aload_n hx hb dX11_regiment_298 rfl (lv_at hl 1 rfl) ?_
  refine va_get (D := (dC, dI)) (ci := 11) (v := .ref (r 77)) (C := RX11) (T := TX11) (N := 79) hx hb hts inB_11 hown hE.1 hP 1 rfl rfl 77 (by decide) (hts _ k_1397) (fun _ h9 => h9) rfl dX11_regiment_299 ?_
  refine lv_iload_n hx hb dX11_regiment_302 rfl (lv_at hl 0 rfl) ?_
  refine lv_iconst (v := 0) hx hb dX11_regiment_303 (by decide) ?_
  refine stZ (k := 1) hx hb hE hP hD hS 0 rfl (vp_in_nI (n := 1) (by decide) (by decide)) (nI_clamp (n := 1) (by decide)) dX11_regiment_304 (fun H locs hP hD hS => ?_)
  have eU : upd zF 1 (vp_nar .boolean 0) = zF := upd_same rfl
  rw [eU] at hP hD
  have hP : va_P (dC, dI) vwCl [((r 77), .inl (cy 3, 3, .inl zF)), (h0, .inr (11, mFs r (upd (upd (upd mv0 43 10) 44 150) 45 2))), ((r 60), .inl (cy 1, 39, .inl zF)), ((r 59), .inl (cy 1, 39, .inl zF))] H := hP
  have hD : va_D A [((r 77), .inl (cy 3, 3, .inl zF)), (h0, .inr (11, mFs r (upd (upd (upd mv0 43 10) 44 150) 45 2))), ((r 60), .inl (cy 1, 39, .inl zF)), ((r 59), .inl (cy 1, 39, .inl zF))] := hD
  refine lv_iinc (v := 2) (lv' := [(1, .int 2), (0, .ref h0)]) hx hb dX11_regiment_305 hl (k := 0) rfl (by decide) (by decide) rfl (fun ls hl => ?_)
  refine lv_goto (tgt := 293) hx hb dX11_regiment_308 (by decide) ?_
  refine lv_iload_n hx hb dX11_regiment_293 rfl (lv_at hl 0 rfl) ?_
  refine lv_iconst (v := 3) hx hb dX11_regiment_294 (by decide) ?_
  refine lv_icmp_ge (tgt := 311) hx hb dX11_regiment_295 (by decide) (fun c0 => absurd c0 (by decide)) (fun _ => ?_)
  refine lv_aload_n hx hb dX11_regiment_298 rfl (lv_at hl 1 rfl) ?_
  refine va_get (D := (dC, dI)) (ci := 11) (v := .ref (r 77)) (C := RX11) (T := TX11) (N := 79) hx hb hts inB_11 hown hE.1 hP 1 rfl rfl 77 (by decide) (hts _ k_1397) (fun _ h9 => h9) rfl dX11_regiment_299 ?_
  refine lv_iload_n hx hb dX11_regiment_302 rfl (lv_at hl 0 rfl) ?_
  refine lv_iconst (v := 0) hx hb dX11_regiment_303 (by decide) ?_
  refine stZ (k := 2) hx hb hE hP hD hS 0 rfl (vp_in_nI (n := 2) (by decide) (by decide)) (nI_clamp (n := 2) (by decide)) dX11_regiment_304 (fun H locs hP hD hS => ?_)
  have eU : upd zF 2 (vp_nar .boolean 0) = zF := upd_same rfl
  rw [eU] at hP hD
  have hP : va_P (dC, dI) vwCl [((r 77), .inl (cy 3, 3, .inl zF)), (h0, .inr (11, mFs r (upd (upd (upd mv0 43 10) 44 150) 45 2))), ((r 60), .inl (cy 1, 39, .inl zF)), ((r 59), .inl (cy 1, 39, .inl zF))] H := hP
  have hD : va_D A [((r 77), .inl (cy 3, 3, .inl zF)), (h0, .inr (11, mFs r (upd (upd (upd mv0 43 10) 44 150) 45 2))), ((r 60), .inl (cy 1, 39, .inl zF)), ((r 59), .inl (cy 1, 39, .inl zF))] := hD
  refine lv_iinc (v := 3) (lv' := [(1, .int 3), (0, .ref h0)]) hx hb dX11_regiment_305 hl (k := 0) rfl (by decide) (by decide) rfl (fun ls hl => ?_)
  refine lv_goto (tgt := 293) hx hb dX11_regiment_308 (by decide) ?_
  refine lv_iload_n hx hb dX11_regiment_293 rfl (lv_at hl 0 rfl) ?_
  refine lv_iconst (v := 3) hx hb dX11_regiment_294 (by decide) ?_
  refine lv_icmp_ge (tgt := 311) hx hb dX11_regiment_295 (by decide) (fun _ => ?_) (fun c0 => absurd (by decide) c0)
  refine lv_aload_n hx hb dX11_regiment_311 rfl (lv_at hl 1 rfl) ?_
  refine va_get (D := (dC, dI)) (ci := 11) (v := .int 0) (C := RX11) (T := TX11) (N := 79) hx hb hts inB_11 hown hE.1 hP 1 rfl rfl 48 (by decide) (hts _ k_1368) (fun _ h9 => h9) rfl dX11_regiment_312 ?_
  exact ret 0 () _ _ _ _ _ _ rfl (pt_X11_regiment_162 ) (hP.sub [] rfl) (hD.sub [] (by decide) rfl) hS dX11_regiment_315 (Nat.le_of_ble_eq_true rfl) (Nat.le_of_ble_eq_true rfl)
theorem pt_X10_fault_163 (p1 : Int32) (c1 : ¬ p1 = 0) (c2 : ¬ p1 = 1) : ((-1) : Int32) = F_fault p1 := by
  unfold F_fault
  (repeat' split)
  all_goals first | rfl | assumption | (exfalso; simp only [fa_lt, fa_le, fa_eq, tl_m1, tl_0, tl_1] at *; omega) | (simp only [fa_lt, fa_le, fa_eq, tl_m1, tl_0, tl_1] at *; omega)
theorem pt_X10_fault_164 (p1 : Int32) (c1 : ¬ p1 = 0) (c2 : p1 = 1) : ((-1) : Int32) = F_fault p1 := by
  unfold F_fault
  (repeat' split)
  all_goals first | rfl | assumption | (exfalso; simp only [fa_lt, fa_le, fa_eq, tl_m1, tl_0, tl_1] at *; omega) | (simp only [fa_lt, fa_le, fa_eq, tl_m1, tl_0, tl_1] at *; omega)
theorem pt_X10_fault_165 (p1 : Int32) (c1 : p1 = 0) : (0 : Int32) = F_fault p1 := by
  unfold F_fault
  (repeat' split)
  all_goals first | rfl | assumption | (exfalso; simp only [fa_lt, fa_le, fa_eq, tl_m1, tl_0] at *; omega) | (simp only [fa_lt, fa_le, fa_eq, tl_m1, tl_0] at *; omega)
set_option maxHeartbeats 4000000 in
set_option maxRecDepth 100000 in
theorem cnX10_fault_1 (l : Launch) (dC : Nat → ClassId) (dI : Nat → Nat → Nat) (cy : Nat → ClassId) (h0 : Nat) (h1 : Nat) (b0 : Nat) (b1 : Nat) (b2 : Nat) (b3 : Nat) (b4 : Nat) (b5 : Nat) (b6 : Nat) (b7 : Nat) (b8 : Nat) (b9 : Nat) (b10 : Nat) (p1 : Int32) : ctI l (dC, dI) cy yX10_fault cX10_fault 2 .int 1 60 0 0 Unit [.ref h0, .int p1] [(h0, .inr (10, [.ref b0, .ref h1, .ref b1, .ref b2, .ref b3, .ref b4, .ref b5, .ref b6, .ref b7, .int 0])), (h1, .inr (6, [.ref b0, .ref b8, .ref b9, .ref b10, .int 0, .int 0, .int (-1)]))] (fun r _ => r = F_fault p1) (fun u => []) := by
  refine ctI_of (by decide) (Nat.le_of_ble_eq_true rfl) (fun p e s m below meth c A ls Q hx hb hml hts hown hE hP hD hA hl ret => ?_)
  have hown : s.vm.findClass RX10 = some m.cls := hown
  have hS : va_S A s.heap s.heap [] := va_S.rf
  have hl : lv_has ls 2 [(0, .ref h0), (1, .int p1)] := hl
  refine lv_iload_n hx hb dX10_fault_0 rfl (lv_at hl 1 rfl) ?_
  refine lv_if_ne (tgt := 14) hx hb dX10_fault_1 (by decide) (fun c1 => ?_) (fun c1 => ?_)
  · skip
    refine lv_iload_n hx hb dX10_fault_14 rfl (lv_at hl 1 rfl) ?_
    refine lv_iconst (v := 1) hx hb dX10_fault_15 (by decide) ?_
    refine lv_icmp_ne (tgt := 29) hx hb dX10_fault_16 (by decide) (fun c2 => ?_) (fun c2 => ?_)
    · skip
      refine lv_iconst (v := (-1)) hx hb dX10_fault_29 (by decide) ?_
      exact ret (-1) () _ _ _ _ _ _ rfl (pt_X10_fault_163 p1 c1 c2) (hP.sub [] rfl) (hD.sub [] (by decide) rfl) hS dX10_fault_30 (Nat.le_of_ble_eq_true rfl) (Nat.le_of_ble_eq_true rfl)
    · skip
      refine lv_aload_n hx hb dX10_fault_19 rfl (lv_at hl 0 rfl) ?_
      refine va_get (D := (dC, dI)) (ci := 10) (v := .ref h1) (C := RX10) (T := TX10) (N := 10) hx hb hts inB_10 hown hE.1 hP 0 rfl rfl 1 (by decide) (hts _ k_492) (fun _ h9 => h9) rfl dX10_fault_20 ?_
      refine va_getN (D := (dC, dI)) (ci := 6) (v := .int (-1)) (C := RX6) (T := TX6) (N := 7) hx hb hts inB_6 hown hE.1 hP 1 rfl rfl 6 (by decide) (va_Nw.use rfl (hE.2 _ k_274)) (fun _ h9 => h9) rfl dX10_fault_23 ?_
      refine lv_goto (tgt := 30) hx hb dX10_fault_26 (by decide) ?_
      exact ret (-1) () _ _ _ _ _ _ rfl (pt_X10_fault_164 p1 c1 c2) (hP.sub [] rfl) (hD.sub [] (by decide) rfl) hS dX10_fault_30 (Nat.le_of_ble_eq_true rfl) (Nat.le_of_ble_eq_true rfl)
  · skip
    refine lv_aload_n hx hb dX10_fault_4 rfl (lv_at hl 0 rfl) ?_
    refine va_get (D := (dC, dI)) (ci := 10) (v := .ref h1) (C := RX10) (T := TX10) (N := 10) hx hb hts inB_10 hown hE.1 hP 0 rfl rfl 1 (by decide) (hts _ k_492) (fun _ h9 => h9) rfl dX10_fault_5 ?_
    refine va_getN (D := (dC, dI)) (ci := 6) (v := .int 0) (C := RX6) (T := TX6) (N := 7) hx hb hts inB_6 hown hE.1 hP 1 rfl rfl 5 (by decide) (va_Nw.use rfl (hE.2 _ k_272)) (fun _ h9 => h9) rfl dX10_fault_8 ?_
    refine lv_goto (tgt := 30) hx hb dX10_fault_11 (by decide) ?_
    exact ret 0 () _ _ _ _ _ _ rfl (pt_X10_fault_165 p1 c1) (hP.sub [] rfl) (hD.sub [] (by decide) rfl) hS dX10_fault_30 (Nat.le_of_ble_eq_true rfl) (Nat.le_of_ble_eq_true rfl)
theorem pt_X11_fault_166 (p1 : Int32) (c1 : ¬ p1 = 0) (c2 : ¬ p1 = 1) : ((-1) : Int32) = F_fault p1 := by
  unfold F_fault
  (repeat' split)
  all_goals first | rfl | assumption | (exfalso; simp only [fa_lt, fa_le, fa_eq, tl_m1, tl_0, tl_1] at *; omega) | (simp only [fa_lt, fa_le, fa_eq, tl_m1, tl_0, tl_1] at *; omega)
theorem pt_X11_fault_167 (p1 : Int32) (c1 : ¬ p1 = 0) (c2 : p1 = 1) : ((-1) : Int32) = F_fault p1 := by
  unfold F_fault
  (repeat' split)
  all_goals first | rfl | assumption | (exfalso; simp only [fa_lt, fa_le, fa_eq, tl_m1, tl_0, tl_1] at *; omega) | (simp only [fa_lt, fa_le, fa_eq, tl_m1, tl_0, tl_1] at *; omega)
theorem pt_X11_fault_168 (p1 : Int32) (c1 : p1 = 0) : (0 : Int32) = F_fault p1 := by
  unfold F_fault
  (repeat' split)
  all_goals first | rfl | assumption | (exfalso; simp only [fa_lt, fa_le, fa_eq, tl_m1, tl_0] at *; omega) | (simp only [fa_lt, fa_le, fa_eq, tl_m1, tl_0] at *; omega)
set_option maxHeartbeats 4000000 in
set_option maxRecDepth 100000 in
theorem cnX11_fault_1 (l : Launch) (dC : Nat → ClassId) (dI : Nat → Nat → Nat) (cy : Nat → ClassId) (h0 : Nat) (r : Nat → Nat) (p1 : Int32) : ctI l (dC, dI) cy yX11_fault cX11_fault 2 .int 1 60 0 0 Unit [.ref h0, .int p1] [(h0, .inr (11, mFs r mv0))] (fun r _ => r = F_fault p1) (fun u => []) := by
  refine ctI_of (by decide) (Nat.le_of_ble_eq_true rfl) (fun p e s m below meth c A ls Q hx hb hml hts hown hE hP hD hA hl ret => ?_)
  have hown : s.vm.findClass RX11 = some m.cls := hown
  have hS : va_S A s.heap s.heap [] := va_S.rf
  have hl : lv_has ls 2 [(0, .ref h0), (1, .int p1)] := hl
  refine lv_iload_n hx hb dX11_fault_0 rfl (lv_at hl 1 rfl) ?_
  refine lv_if_ne (tgt := 11) hx hb dX11_fault_1 (by decide) (fun c1 => ?_) (fun c1 => ?_)
  · skip
    refine lv_iload_n hx hb dX11_fault_11 rfl (lv_at hl 1 rfl) ?_
    refine lv_iconst (v := 1) hx hb dX11_fault_12 (by decide) ?_
    refine lv_icmp_ne (tgt := 23) hx hb dX11_fault_13 (by decide) (fun c2 => ?_) (fun c2 => ?_)
    · skip
      refine lv_iconst (v := (-1)) hx hb dX11_fault_23 (by decide) ?_
      exact ret (-1) () _ _ _ _ _ _ rfl (pt_X11_fault_166 p1 c1 c2) (hP.sub [] rfl) (hD.sub [] (by decide) rfl) hS dX11_fault_24 (Nat.le_of_ble_eq_true rfl) (Nat.le_of_ble_eq_true rfl)
    · skip
      refine lv_aload_n hx hb dX11_fault_16 rfl (lv_at hl 0 rfl) ?_
      refine va_get (D := (dC, dI)) (ci := 11) (v := .int (-1)) (C := RX11) (T := TX11) (N := 79) hx hb hts inB_11 hown hE.1 hP 0 rfl rfl 3 (by decide) (hts _ k_1323) (fun _ h9 => h9) rfl dX11_fault_17 ?_
      refine lv_goto (tgt := 24) hx hb dX11_fault_20 (by decide) ?_
      exact ret (-1) () _ _ _ _ _ _ rfl (pt_X11_fault_167 p1 c1 c2) (hP.sub [] rfl) (hD.sub [] (by decide) rfl) hS dX11_fault_24 (Nat.le_of_ble_eq_true rfl) (Nat.le_of_ble_eq_true rfl)
  · skip
    refine lv_aload_n hx hb dX11_fault_4 rfl (lv_at hl 0 rfl) ?_
    refine va_get (D := (dC, dI)) (ci := 11) (v := .int 0) (C := RX11) (T := TX11) (N := 79) hx hb hts inB_11 hown hE.1 hP 0 rfl rfl 2 (by decide) (hts _ k_1322) (fun _ h9 => h9) rfl dX11_fault_5 ?_
    refine lv_goto (tgt := 24) hx hb dX11_fault_8 (by decide) ?_
    exact ret 0 () _ _ _ _ _ _ rfl (pt_X11_fault_168 p1 c1) (hP.sub [] rfl) (hD.sub [] (by decide) rfl) hS dX11_fault_24 (Nat.le_of_ble_eq_true rfl) (Nat.le_of_ble_eq_true rfl)
theorem pt_X10_man_169 (p1 : Int32) (p2 : Int32) : ((-2) : Int32) = F_man p1 p2 := by
  unfold F_man
  (repeat' split)
  all_goals first | rfl | assumption | (exfalso; simp only [fa_lt, fa_le, fa_eq, tl_m2] at *; omega) | (simp only [fa_lt, fa_le, fa_eq, tl_m2] at *; omega)
set_option maxHeartbeats 4000000 in
set_option maxRecDepth 100000 in
theorem cnX10_man_1 (l : Launch) (dC : Nat → ClassId) (dI : Nat → Nat → Nat) (cy : Nat → ClassId) (h0 : Nat) (h1 : Nat) (b0 : Nat) (b1 : Nat) (b2 : Nat) (b3 : Nat) (b4 : Nat) (b5 : Nat) (b6 : Nat) (b7 : Nat) (b8 : Nat) (b9 : Nat) (b10 : Nat) (p1 : Int32) (p2 : Int32) : ctI l (dC, dI) cy yX10_man cX10_man 3 .int 2 81 0 0 Unit [.ref h0, .int p1, .int p2] [(h0, .inr (10, [.ref b0, .ref b1, .ref h1, .ref b2, .ref b3, .ref b4, .ref b5, .ref b6, .ref b7, .int 0])), (h1, .inr (7, [.ref b8, .ref b9, .ref b10, .int 0, .int 0, .int 10, .int 150, .int 2, .int 0, .int 0]))] (fun r _ => r = F_man p1 p2) (fun u => []) := by
  refine ctI_of (by decide) (Nat.le_of_ble_eq_true rfl) (fun p e s m below meth c A ls Q hx hb hml hts hown hE hP hD hA hl ret => ?_)
  have hown : s.vm.findClass RX10 = some m.cls := hown
  have hS : va_S A s.heap s.heap [] := va_S.rf
  have hl : lv_has ls 3 [(0, .ref h0), (1, .int p1), (2, .int p2)] := hl
  refine lv_aload_n hx hb dX10_man_0 rfl (lv_at hl 0 rfl) ?_
  refine va_get (D := (dC, dI)) (ci := 10) (v := .ref h1) (C := RX10) (T := TX10) (N := 10) hx hb hts inB_10 hown hE.1 hP 0 rfl rfl 2 (by decide) (hts _ k_493) (fun _ h9 => h9) rfl dX10_man_1 ?_
  refine lv_iload_n hx hb dX10_man_4 rfl (lv_at hl 1 rfl) ?_
  refine caVi (n := 1) (wr := [(h0, .inr (10, [.ref b0, .ref b1, .ref h1, .ref b2, .ref b3, .ref b4, .ref b5, .ref b6, .ref b7, .int 0]))]) (rest := []) hx hb hml hown hts hE hP hD hS hA (cnX7_hasMan_1 l dC dI cy h1 b8 b9 b10 p1) k_802 k_307 k_308 k_104 k_309 (by decide +kernel) ⟨Nat.le_of_ble_eq_true rfl, Nat.le_of_ble_eq_true rfl⟩ [1] [0] rfl rfl rfl (by decide) (by decide) (by decide) 0 7 rfl rfl rfl hl.1 rfl (Nat.le_of_ble_eq_true rfl) dX10_man_5 ⟨Nat.le_of_ble_eq_true rfl, Nat.le_of_ble_eq_true rfl⟩ (fun rr u H locs hw hP hD hS => ?_)
  have hP : va_P (dC, dI) vwCl [(h0, .inr (10, [.ref b0, .ref b1, .ref h1, .ref b2, .ref b3, .ref b4, .ref b5, .ref b6, .ref b7, .int 0])), (h1, .inr (7, [.ref b8, .ref b9, .ref b10, .int 0, .int 0, .int 10, .int 150, .int 2, .int 0, .int 0]))] H := hP
  have hD : va_D A [(h0, .inr (10, [.ref b0, .ref b1, .ref h1, .ref b2, .ref b3, .ref b4, .ref b5, .ref b6, .ref b7, .int 0])), (h1, .inr (7, [.ref b8, .ref b9, .ref b10, .int 0, .int 0, .int 10, .int 150, .int 2, .int 0, .int 0]))] := hD
  refine tI (y := 0) hw ?_
  refine lv_if_ne (tgt := 14) hx hb dX10_man_8 (by decide) (fun c0 => absurd (by decide) c0) (fun _ => ?_)
  refine lv_bipush (v := (-2)) hx hb dX10_man_11 (by decide) ?_
  exact ret (-2) () _ _ _ _ _ _ rfl (pt_X10_man_169 p1 p2) (hP.sub [] rfl) (hD.sub [] (by decide) rfl) hS dX10_man_13 (Nat.le_of_ble_eq_true rfl) (Nat.le_of_ble_eq_true rfl)
theorem po_X11_isIn_170 (p0 : Int32) (c1 : ¬ p0 < 0) : (-1) < p0 := by simp only [fa_lt, fa_le, fa_eq, tl_m1, tl_0] at *; omega
set_option maxHeartbeats 4000000 in
set_option maxRecDepth 100000 in
theorem cnX11_isIn_1 (l : Launch) (dC : Nat → ClassId) (dI : Nat → Nat → Nat) (cy : Nat → ClassId) (p0 : Int32) : ctI l (dC, dI) cy yX11_isIn cX11_isIn 3 .boolean 1 60 0 0 Unit [.int p0, .int 0, .int (-1)] [] (fun r _ => r = 0) (fun u => []) := by
  refine ctI_of (by decide) (Nat.le_of_ble_eq_true rfl) (fun p e s m below meth c A ls Q hx hb hml hts hown hE hP hD hA hl ret => ?_)
  have hown : s.vm.findClass RX11 = some m.cls := hown
  have hS : va_S A s.heap s.heap [] := va_S.rf
  have hl : lv_has ls 3 [(0, .int p0), (1, .int 0), (2, .int (-1))] := hl
  refine lv_iload_n hx hb dX11_isIn_0 rfl (lv_at hl 0 rfl) ?_
  refine lv_iload_n hx hb dX11_isIn_1 rfl (lv_at hl 1 rfl) ?_
  refine lv_icmp_lt (tgt := 14) hx hb dX11_isIn_2 (by decide) (fun c1 => ?_) (fun c1 => ?_)
  · skip
    refine lv_iconst (v := 0) hx hb dX11_isIn_14 (by decide) ?_
    exact ret 0 () _ _ _ _ _ _ rfl rfl (hP.sub [] rfl) (hD.sub [] (by decide) rfl) hS dX11_isIn_15 (Nat.le_of_ble_eq_true rfl) (Nat.le_of_ble_eq_true rfl)
  · skip
    refine lv_iload_n hx hb dX11_isIn_5 rfl (lv_at hl 0 rfl) ?_
    refine lv_iload_n hx hb dX11_isIn_6 rfl (lv_at hl 2 rfl) ?_
    refine lv_icmp_gt (tgt := 14) hx hb dX11_isIn_7 (by decide) (fun _ => ?_) (fun c0 => absurd (po_X11_isIn_170 p0 c1) c0)
    refine lv_iconst (v := 0) hx hb dX11_isIn_14 (by decide) ?_
    exact ret 0 () _ _ _ _ _ _ rfl rfl (hP.sub [] rfl) (hD.sub [] (by decide) rfl) hS dX11_isIn_15 (Nat.le_of_ble_eq_true rfl) (Nat.le_of_ble_eq_true rfl)
set_option maxHeartbeats 4000000 in
set_option maxRecDepth 100000 in
theorem cnX11_isMan_1 (l : Launch) (dC : Nat → ClassId) (dI : Nat → Nat → Nat) (cy : Nat → ClassId) (h0 : Nat) (r : Nat → Nat) (p1 : Int32) : ctI l (dC, dI) cy yX11_isMan cX11_isMan 2 .boolean 2 82 0 0 Unit [.ref h0, .int p1] [(h0, .inr (11, mFs r mv0))] (fun r _ => r = 0) (fun u => [(h0, .inr (11, mFs r mv0))]) := by
  refine ctI_of (by decide) (Nat.le_of_ble_eq_true rfl) (fun p e s m below meth c A ls Q hx hb hml hts hown hE hP hD hA hl ret => ?_)
  have hown : s.vm.findClass RX11 = some m.cls := hown
  have hS : va_S A s.heap s.heap [] := va_S.rf
  have hl : lv_has ls 2 [(0, .ref h0), (1, .int p1)] := hl
  refine lv_iload_n hx hb dX11_isMan_0 rfl (lv_at hl 1 rfl) ?_
  refine lv_iconst (v := 0) hx hb dX11_isMan_1 (by decide) ?_
  refine lv_aload_n hx hb dX11_isMan_2 rfl (lv_at hl 0 rfl) ?_
  refine va_get (D := (dC, dI)) (ci := 11) (v := .int 0) (C := RX11) (T := TX11) (N := 79) hx hb hts inB_11 hown hE.1 hP 0 rfl rfl 48 (by decide) (hts _ k_1368) (fun _ h9 => h9) rfl dX11_isMan_3 ?_
  refine lv_iconst (v := 1) hx hb dX11_isMan_6 (by decide) ?_
  refine lv_isub hx hb dX11_isMan_7 ?_
  refine tI (y := (-1)) (by decide) ?_
  refine caSi (n := 3) (wr := [(h0, .inr (11, mFs r mv0))]) (rest := []) hx hb hml hown hts hE hP hD hS hA (cnX11_isIn_1 l dC dI cy p1) k_1736 k_1737 k_114 k_1738 (by decide +kernel) ⟨Nat.le_of_ble_eq_true rfl, Nat.le_of_ble_eq_true rfl⟩ [] [0] rfl rfl rfl (by decide) (by decide) (by decide) rfl hl.1 rfl (Nat.le_of_ble_eq_true rfl) dX11_isMan_8 ⟨Nat.le_of_ble_eq_true rfl, Nat.le_of_ble_eq_true rfl⟩ (fun rr u H locs hw hP hD hS => ?_)
  have hP : va_P (dC, dI) vwCl [(h0, .inr (11, mFs r mv0))] H := hP
  have hD : va_D A [(h0, .inr (11, mFs r mv0))] := hD
  refine tI (y := 0) hw ?_
  exact ret 0 () _ _ _ _ _ _ rfl rfl (hP.sub [0] rfl) (hD.sub [0] (by decide) rfl) hS dX11_isMan_11 (Nat.le_of_ble_eq_true rfl) (Nat.le_of_ble_eq_true rfl)
theorem pt_X11_man_171 (p1 : Int32) (p2 : Int32) : ((-2) : Int32) = F_man p1 p2 := by
  unfold F_man
  (repeat' split)
  all_goals first | rfl | assumption | (exfalso; simp only [fa_lt, fa_le, fa_eq, tl_m2] at *; omega) | (simp only [fa_lt, fa_le, fa_eq, tl_m2] at *; omega)
set_option maxHeartbeats 4000000 in
set_option maxRecDepth 100000 in
theorem cnX11_man_1 (l : Launch) (dC : Nat → ClassId) (dI : Nat → Nat → Nat) (cy : Nat → ClassId) (h0 : Nat) (r : Nat → Nat) (p1 : Int32) (p2 : Int32) : ctI l (dC, dI) cy yX11_man cX11_man 3 .int 3 103 0 0 Unit [.ref h0, .int p1, .int p2] [(h0, .inr (11, mFs r mv0))] (fun r _ => r = F_man p1 p2) (fun u => []) := by
  refine ctI_of (by decide) (Nat.le_of_ble_eq_true rfl) (fun p e s m below meth c A ls Q hx hb hml hts hown hE hP hD hA hl ret => ?_)
  have hown : s.vm.findClass RX11 = some m.cls := hown
  have hS : va_S A s.heap s.heap [] := va_S.rf
  have hl : lv_has ls 3 [(0, .ref h0), (1, .int p1), (2, .int p2)] := hl
  refine lv_aload_n hx hb dX11_man_0 rfl (lv_at hl 0 rfl) ?_
  refine lv_iload_n hx hb dX11_man_1 rfl (lv_at hl 1 rfl) ?_
  refine caVi (n := 1) (wr := []) (rest := []) hx hb hml hown hts hE hP hD hS hA (cnX11_isMan_1 l dC dI cy h0 r p1) k_1732 k_1734 k_70 k_114 k_1735 (by decide +kernel) ⟨Nat.le_of_ble_eq_true rfl, Nat.le_of_ble_eq_true rfl⟩ [0] [] rfl rfl rfl (by decide) (by decide) (by decide) 0 11 rfl rfl rfl hl.1 rfl (Nat.le_of_ble_eq_true rfl) dX11_man_2 ⟨Nat.le_of_ble_eq_true rfl, Nat.le_of_ble_eq_true rfl⟩ (fun rr u H locs hw hP hD hS => ?_)
  have hP : va_P (dC, dI) vwCl [(h0, .inr (11, mFs r mv0))] H := hP
  have hD : va_D A [(h0, .inr (11, mFs r mv0))] := hD
  refine tI (y := 0) hw ?_
  refine lv_if_ne (tgt := 11) hx hb dX11_man_5 (by decide) (fun c0 => absurd (by decide) c0) (fun _ => ?_)
  refine lv_bipush (v := (-2)) hx hb dX11_man_8 (by decide) ?_
  exact ret (-2) () _ _ _ _ _ _ rfl (pt_X11_man_171 p1 p2) (hP.sub [] rfl) (hD.sub [] (by decide) rfl) hS dX11_man_10 (Nat.le_of_ble_eq_true rfl) (Nat.le_of_ble_eq_true rfl)
theorem pt_X10_coat_172 (p1 : Int32) (p2 : Int32) : ((-2) : Int32) = F_coat p1 p2 := by
  unfold F_coat
  (repeat' split)
  all_goals first | rfl | assumption | (exfalso; simp only [fa_lt, fa_le, fa_eq, tl_m2] at *; omega) | (simp only [fa_lt, fa_le, fa_eq, tl_m2] at *; omega)
set_option maxHeartbeats 4000000 in
set_option maxRecDepth 100000 in
theorem cnX10_coat_1 (l : Launch) (dC : Nat → ClassId) (dI : Nat → Nat → Nat) (cy : Nat → ClassId) (h0 : Nat) (h1 : Nat) (b0 : Nat) (b1 : Nat) (b2 : Nat) (b3 : Nat) (b4 : Nat) (b5 : Nat) (b6 : Nat) (b7 : Nat) (b8 : Nat) (b9 : Nat) (b10 : Nat) (p1 : Int32) (p2 : Int32) : ctI l (dC, dI) cy yX10_coat cX10_coat 3 .int 2 81 0 0 Unit [.ref h0, .int p1, .int p2] [(h0, .inr (10, [.ref b0, .ref b1, .ref h1, .ref b2, .ref b3, .ref b4, .ref b5, .ref b6, .ref b7, .int 0])), (h1, .inr (7, [.ref b8, .ref b9, .ref b10, .int 0, .int 0, .int 10, .int 150, .int 2, .int 0, .int 0]))] (fun r _ => r = F_coat p1 p2) (fun u => []) := by
  refine ctI_of (by decide) (Nat.le_of_ble_eq_true rfl) (fun p e s m below meth c A ls Q hx hb hml hts hown hE hP hD hA hl ret => ?_)
  have hown : s.vm.findClass RX10 = some m.cls := hown
  have hS : va_S A s.heap s.heap [] := va_S.rf
  have hl : lv_has ls 3 [(0, .ref h0), (1, .int p1), (2, .int p2)] := hl
  refine lv_aload_n hx hb dX10_coat_0 rfl (lv_at hl 0 rfl) ?_
  refine va_get (D := (dC, dI)) (ci := 10) (v := .ref h1) (C := RX10) (T := TX10) (N := 10) hx hb hts inB_10 hown hE.1 hP 0 rfl rfl 2 (by decide) (hts _ k_493) (fun _ h9 => h9) rfl dX10_coat_1 ?_
  refine lv_iload_n hx hb dX10_coat_4 rfl (lv_at hl 1 rfl) ?_
  refine caVi (n := 1) (wr := [(h0, .inr (10, [.ref b0, .ref b1, .ref h1, .ref b2, .ref b3, .ref b4, .ref b5, .ref b6, .ref b7, .int 0]))]) (rest := []) hx hb hml hown hts hE hP hD hS hA (cnX7_hasCoat_1 l dC dI cy h1 b8 b9 b10 p1) k_848 k_315 k_316 k_104 k_317 (by decide +kernel) ⟨Nat.le_of_ble_eq_true rfl, Nat.le_of_ble_eq_true rfl⟩ [1] [0] rfl rfl rfl (by decide) (by decide) (by decide) 0 7 rfl rfl rfl hl.1 rfl (Nat.le_of_ble_eq_true rfl) dX10_coat_5 ⟨Nat.le_of_ble_eq_true rfl, Nat.le_of_ble_eq_true rfl⟩ (fun rr u H locs hw hP hD hS => ?_)
  have hP : va_P (dC, dI) vwCl [(h0, .inr (10, [.ref b0, .ref b1, .ref h1, .ref b2, .ref b3, .ref b4, .ref b5, .ref b6, .ref b7, .int 0])), (h1, .inr (7, [.ref b8, .ref b9, .ref b10, .int 0, .int 0, .int 10, .int 150, .int 2, .int 0, .int 0]))] H := hP
  have hD : va_D A [(h0, .inr (10, [.ref b0, .ref b1, .ref h1, .ref b2, .ref b3, .ref b4, .ref b5, .ref b6, .ref b7, .int 0])), (h1, .inr (7, [.ref b8, .ref b9, .ref b10, .int 0, .int 0, .int 10, .int 150, .int 2, .int 0, .int 0]))] := hD
  refine tI (y := 0) hw ?_
  refine lv_if_eq (tgt := 20) hx hb dX10_coat_8 (by decide) (fun _ => ?_) (fun c0 => absurd (by decide) c0)
  refine lv_bipush (v := (-2)) hx hb dX10_coat_20 (by decide) ?_
  exact ret (-2) () _ _ _ _ _ _ rfl (pt_X10_coat_172 p1 p2) (hP.sub [] rfl) (hD.sub [] (by decide) rfl) hS dX10_coat_22 (Nat.le_of_ble_eq_true rfl) (Nat.le_of_ble_eq_true rfl)
set_option maxHeartbeats 4000000 in
set_option maxRecDepth 100000 in
theorem cnX11_isCoat_1 (l : Launch) (dC : Nat → ClassId) (dI : Nat → Nat → Nat) (cy : Nat → ClassId) (h0 : Nat) (r : Nat → Nat) (p1 : Int32) : ctI l (dC, dI) cy yX11_isCoat cX11_isCoat 2 .boolean 2 82 0 0 Unit [.ref h0, .int p1] [(h0, .inr (11, mFs r mv0))] (fun r _ => r = 0) (fun u => [(h0, .inr (11, mFs r mv0))]) := by
  refine ctI_of (by decide) (Nat.le_of_ble_eq_true rfl) (fun p e s m below meth c A ls Q hx hb hml hts hown hE hP hD hA hl ret => ?_)
  have hown : s.vm.findClass RX11 = some m.cls := hown
  have hS : va_S A s.heap s.heap [] := va_S.rf
  have hl : lv_has ls 2 [(0, .ref h0), (1, .int p1)] := hl
  refine lv_iload_n hx hb dX11_isCoat_0 rfl (lv_at hl 1 rfl) ?_
  refine lv_iconst (v := 0) hx hb dX11_isCoat_1 (by decide) ?_
  refine lv_aload_n hx hb dX11_isCoat_2 rfl (lv_at hl 0 rfl) ?_
  refine va_get (D := (dC, dI)) (ci := 11) (v := .int 0) (C := RX11) (T := TX11) (N := 79) hx hb hts inB_11 hown hE.1 hP 0 rfl rfl 49 (by decide) (hts _ k_1369) (fun _ h9 => h9) rfl dX11_isCoat_3 ?_
  refine lv_iconst (v := 1) hx hb dX11_isCoat_6 (by decide) ?_
  refine lv_isub hx hb dX11_isCoat_7 ?_
  refine tI (y := (-1)) (by decide) ?_
  refine caSi (n := 3) (wr := [(h0, .inr (11, mFs r mv0))]) (rest := []) hx hb hml hown hts hE hP hD hS hA (cnX11_isIn_1 l dC dI cy p1) k_1736 k_1737 k_114 k_1738 (by decide +kernel) ⟨Nat.le_of_ble_eq_true rfl, Nat.le_of_ble_eq_true rfl⟩ [] [0] rfl rfl rfl (by decide) (by decide) (by decide) rfl hl.1 rfl (Nat.le_of_ble_eq_true rfl) dX11_isCoat_8 ⟨Nat.le_of_ble_eq_true rfl, Nat.le_of_ble_eq_true rfl⟩ (fun rr u H locs hw hP hD hS => ?_)
  have hP : va_P (dC, dI) vwCl [(h0, .inr (11, mFs r mv0))] H := hP
  have hD : va_D A [(h0, .inr (11, mFs r mv0))] := hD
  refine tI (y := 0) hw ?_
  exact ret 0 () _ _ _ _ _ _ rfl rfl (hP.sub [0] rfl) (hD.sub [0] (by decide) rfl) hS dX11_isCoat_11 (Nat.le_of_ble_eq_true rfl) (Nat.le_of_ble_eq_true rfl)
theorem pt_X11_coat_173 (p1 : Int32) (p2 : Int32) : ((-2) : Int32) = F_coat p1 p2 := by
  unfold F_coat
  (repeat' split)
  all_goals first | rfl | assumption | (exfalso; simp only [fa_lt, fa_le, fa_eq, tl_m2] at *; omega) | (simp only [fa_lt, fa_le, fa_eq, tl_m2] at *; omega)
set_option maxHeartbeats 4000000 in
set_option maxRecDepth 100000 in
theorem cnX11_coat_1 (l : Launch) (dC : Nat → ClassId) (dI : Nat → Nat → Nat) (cy : Nat → ClassId) (h0 : Nat) (r : Nat → Nat) (p1 : Int32) (p2 : Int32) : ctI l (dC, dI) cy yX11_coat cX11_coat 3 .int 3 103 0 0 Unit [.ref h0, .int p1, .int p2] [(h0, .inr (11, mFs r mv0))] (fun r _ => r = F_coat p1 p2) (fun u => []) := by
  refine ctI_of (by decide) (Nat.le_of_ble_eq_true rfl) (fun p e s m below meth c A ls Q hx hb hml hts hown hE hP hD hA hl ret => ?_)
  have hown : s.vm.findClass RX11 = some m.cls := hown
  have hS : va_S A s.heap s.heap [] := va_S.rf
  have hl : lv_has ls 3 [(0, .ref h0), (1, .int p1), (2, .int p2)] := hl
  refine lv_aload_n hx hb dX11_coat_0 rfl (lv_at hl 0 rfl) ?_
  refine lv_iload_n hx hb dX11_coat_1 rfl (lv_at hl 1 rfl) ?_
  refine caVi (n := 1) (wr := []) (rest := []) hx hb hml hown hts hE hP hD hS hA (cnX11_isCoat_1 l dC dI cy h0 r p1) k_1771 k_1773 k_75 k_114 k_1774 (by decide +kernel) ⟨Nat.le_of_ble_eq_true rfl, Nat.le_of_ble_eq_true rfl⟩ [0] [] rfl rfl rfl (by decide) (by decide) (by decide) 0 11 rfl rfl rfl hl.1 rfl (Nat.le_of_ble_eq_true rfl) dX11_coat_2 ⟨Nat.le_of_ble_eq_true rfl, Nat.le_of_ble_eq_true rfl⟩ (fun rr u H locs hw hP hD hS => ?_)
  have hP : va_P (dC, dI) vwCl [(h0, .inr (11, mFs r mv0))] H := hP
  have hD : va_D A [(h0, .inr (11, mFs r mv0))] := hD
  refine tI (y := 0) hw ?_
  refine lv_if_ne (tgt := 11) hx hb dX11_coat_5 (by decide) (fun c0 => absurd (by decide) c0) (fun _ => ?_)
  refine lv_bipush (v := (-2)) hx hb dX11_coat_8 (by decide) ?_
  exact ret (-2) () _ _ _ _ _ _ rfl (pt_X11_coat_173 p1 p2) (hP.sub [] rfl) (hD.sub [] (by decide) rfl) hS dX11_coat_10 (Nat.le_of_ble_eq_true rfl) (Nat.le_of_ble_eq_true rfl)
theorem pt_X10_misfit_174 (p1 : Int32) (p2 : Int32) : ((-1) : Int32) = F_misfit p1 p2 := by
  unfold F_misfit
  (repeat' split)
  all_goals first | rfl | assumption | (exfalso; simp only [fa_lt, fa_le, fa_eq, tl_m1] at *; omega) | (simp only [fa_lt, fa_le, fa_eq, tl_m1] at *; omega)
set_option maxHeartbeats 4000000 in
set_option maxRecDepth 100000 in
theorem cnX10_misfit_1 (l : Launch) (dC : Nat → ClassId) (dI : Nat → Nat → Nat) (cy : Nat → ClassId) (h0 : Nat) (h1 : Nat) (b0 : Nat) (b1 : Nat) (b2 : Nat) (b3 : Nat) (b4 : Nat) (b5 : Nat) (b6 : Nat) (b7 : Nat) (b8 : Nat) (b9 : Nat) (b10 : Nat) (p1 : Int32) (p2 : Int32) : ctI l (dC, dI) cy yX10_misfit cX10_misfit 3 .int 2 81 0 0 Unit [.ref h0, .int p1, .int p2] [(h0, .inr (10, [.ref b0, .ref b1, .ref h1, .ref b2, .ref b3, .ref b4, .ref b5, .ref b6, .ref b7, .int 0])), (h1, .inr (7, [.ref b8, .ref b9, .ref b10, .int 0, .int 0, .int 10, .int 150, .int 2, .int 0, .int 0]))] (fun r _ => r = F_misfit p1 p2) (fun u => []) := by
  refine ctI_of (by decide) (Nat.le_of_ble_eq_true rfl) (fun p e s m below meth c A ls Q hx hb hml hts hown hE hP hD hA hl ret => ?_)
  have hown : s.vm.findClass RX10 = some m.cls := hown
  have hS : va_S A s.heap s.heap [] := va_S.rf
  have hl : lv_has ls 3 [(0, .ref h0), (1, .int p1), (2, .int p2)] := hl
  refine lv_aload_n hx hb dX10_misfit_0 rfl (lv_at hl 0 rfl) ?_
  refine va_get (D := (dC, dI)) (ci := 10) (v := .ref h1) (C := RX10) (T := TX10) (N := 10) hx hb hts inB_10 hown hE.1 hP 0 rfl rfl 2 (by decide) (hts _ k_493) (fun _ h9 => h9) rfl dX10_misfit_1 ?_
  refine lv_iload_n hx hb dX10_misfit_4 rfl (lv_at hl 1 rfl) ?_
  refine caVi (n := 1) (wr := [(h0, .inr (10, [.ref b0, .ref b1, .ref h1, .ref b2, .ref b3, .ref b4, .ref b5, .ref b6, .ref b7, .int 0]))]) (rest := []) hx hb hml hown hts hE hP hD hS hA (cnX7_hasMan_1 l dC dI cy h1 b8 b9 b10 p1) k_802 k_307 k_308 k_104 k_309 (by decide +kernel) ⟨Nat.le_of_ble_eq_true rfl, Nat.le_of_ble_eq_true rfl⟩ [1] [0] rfl rfl rfl (by decide) (by decide) (by decide) 0 7 rfl rfl rfl hl.1 rfl (Nat.le_of_ble_eq_true rfl) dX10_misfit_5 ⟨Nat.le_of_ble_eq_true rfl, Nat.le_of_ble_eq_true rfl⟩ (fun rr u H locs hw hP hD hS => ?_)
  have hP : va_P (dC, dI) vwCl [(h0, .inr (10, [.ref b0, .ref b1, .ref h1, .ref b2, .ref b3, .ref b4, .ref b5, .ref b6, .ref b7, .int 0])), (h1, .inr (7, [.ref b8, .ref b9, .ref b10, .int 0, .int 0, .int 10, .int 150, .int 2, .int 0, .int 0]))] H := hP
  have hD : va_D A [(h0, .inr (10, [.ref b0, .ref b1, .ref h1, .ref b2, .ref b3, .ref b4, .ref b5, .ref b6, .ref b7, .int 0])), (h1, .inr (7, [.ref b8, .ref b9, .ref b10, .int 0, .int 0, .int 10, .int 150, .int 2, .int 0, .int 0]))] := hD
  refine tI (y := 0) hw ?_
  refine lv_if_eq (tgt := 34) hx hb dX10_misfit_8 (by decide) (fun _ => ?_) (fun c0 => absurd (by decide) c0)
  refine lv_iconst (v := (-1)) hx hb dX10_misfit_34 (by decide) ?_
  exact ret (-1) () _ _ _ _ _ _ rfl (pt_X10_misfit_174 p1 p2) (hP.sub [] rfl) (hD.sub [] (by decide) rfl) hS dX10_misfit_35 (Nat.le_of_ble_eq_true rfl) (Nat.le_of_ble_eq_true rfl)
theorem po_X11_fill_179 (i1 : Nat) (gi1 : 0 ≤ i1) (hi1 : i1 ≤ 39) (c2 : 39 ≤ (nI (i1))) : i1 = 39 := by have ti_0 : (nI (i1)).toInt = (((i1 : Nat)) : Int) := nI_toInt (by omega); simp only [fa_lt, fa_le, fa_eq, tl_39, ti_0] at *; omega
theorem po_X11_fill_180 (i1 : Nat) (gi1 : 0 ≤ i1) (hi1 : i1 ≤ 39) (c2 : ¬ 39 ≤ (nI (i1))) : i1 < 39 := by have ti_0 : (nI (i1)).toInt = (((i1 : Nat)) : Int) := nI_toInt (by omega); simp only [fa_lt, fa_le, fa_eq, tl_39, ti_0] at *; omega
set_option maxHeartbeats 4000000 in
set_option maxRecDepth 100000 in
theorem cnX11_fill_1 (l : Launch) (dC : Nat → ClassId) (dI : Nat → Nat → Nat) (cy : Nat → ClassId) (h0 : Nat) (r : Nat → Nat) : ctV l (dC, dI) cy yX11_fill cX11_fill 2 1 60 0 0 Unit [.ref h0] [(h0, .inr (11, mFs r mv0)), ((r 59), .inl (cy 1, 39, .inl zF)), ((r 60), .inl (cy 1, 39, .inl zF))] (fun _ => True) (fun u => [(h0, .inr (11, mFs r mv0)), ((r 59), .inl (cy 1, 39, .inl zF)), ((r 60), .inl (cy 1, 39, .inl zF))]) := by
  refine ctV_of (by decide) (Nat.le_of_ble_eq_true rfl) (fun p e s m below meth c A ls Q hx hb hml hts hown hnm hE hP hD hA hl ret => ?_)
  have hown : s.vm.findClass RX11 = some m.cls := hown
  have hS : va_S A s.heap s.heap [] := va_S.rf
  have hl : lv_has ls 2 [(0, .ref h0)] := hl
  refine lv_iconst (v := 0) hx hb dX11_fill_0 (by decide) ?_
  refine lv_istore_n (lv' := [(1, .int 0), (0, .ref h0)]) hx hb dX11_fill_1 rfl hl (by decide) rfl (fun ls hl => ?_)
  have lp1 : ∀ (n i1 : Nat), 0 ≤ i1 → i1 ≤ 39 → 39 < i1 + n → ∀ (H : Heap) (locs : List Loc) (ls : Array Slot), va_P (dC, dI) vwCl [(h0, .inr (11, mFs r mv0)), ((r 59), .inl (cy 1, 39, .inl zF)), ((r 60), .inl (cy 1, 39, .inl zF))] H → va_D A [(h0, .inr (11, mFs r mv0)), ((r 59), .inl (cy 1, 39, .inl zF)), ((r 60), .inl (cy 1, 39, .inl zF))] → va_S A s.heap H locs → lv_has ls 2 [(1, .int (nI (i1))), (0, .ref h0)] → W p l e { frames := 1, cells := 0, slots := 0, locals := 60 } s m ([.ref h0] : List Value).toArray below meth c H locs 0 0 Q (F0 m 2 ls []) := by
    intro n
    induction n with
    | zero => intro i1 h0 h1 h2; exact absurd h2 (by omega)
    | succ n ih1 =>
      intro i1 hloi1 hi1 hin H locs ls hP hD hS hl
      refine lv_iload_n hx hb dX11_fill_2 rfl (lv_at hl 0 rfl) ?_
      refine lv_bipush (v := 39) hx hb dX11_fill_3 (by decide) ?_
      refine lv_icmp_ge (tgt := 26) hx hb dX11_fill_5 (by decide) (fun c2 => ?_) (fun c2 => ?_)
      · skip
        have hsi1 : i1 = 39 := (po_X11_fill_179 i1 hloi1 hi1 c2)
        subst hsi1
        exact ret () _ _ _ _ _ _ trivial (hP.sub [0, 1, 2] rfl) (hD.sub [0, 1, 2] (by decide) rfl) hS dX11_fill_26 (Nat.le_of_ble_eq_true rfl) (Nat.le_of_ble_eq_true rfl)
      · skip
        have hsi1 : i1 < 39 := (po_X11_fill_180 i1 hloi1 hi1 c2)
        refine lv_aload_n hx hb dX11_fill_8 rfl (lv_at hl 1 rfl) ?_
        refine va_get (D := (dC, dI)) (ci := 11) (v := .ref (r 60)) (C := RX11) (T := TX11) (N := 79) hx hb hts inB_11 hown hE.1 hP 0 rfl rfl 60 (by decide) (hts _ k_1380) (fun _ h9 => h9) rfl dX11_fill_9 ?_
        refine lv_iload_n hx hb dX11_fill_12 rfl (lv_at hl 0 rfl) ?_
        refine lv_aload_n hx hb dX11_fill_13 rfl (lv_at hl 1 rfl) ?_
        refine va_get (D := (dC, dI)) (ci := 11) (v := .ref (r 59)) (C := RX11) (T := TX11) (N := 79) hx hb hts inB_11 hown hE.1 hP 0 rfl rfl 59 (by decide) (hts _ k_1379) (fun _ h9 => h9) rfl dX11_fill_14 ?_
        refine lv_iload_n hx hb dX11_fill_17 rfl (lv_at hl 0 rfl) ?_
        refine ldI (k := (i1)) (v := 0) hx hb hE hP 1 rfl (vp_in_nI (by omega) (by decide)) (nI_clamp (by omega)) rfl dX11_fill_18 ?_
        refine stI (k := (i1)) hx hb hE hP hD hS 2 rfl (vp_in_nI (by omega) (by decide)) (nI_clamp (by omega)) dX11_fill_19 (fun H locs hP hD hS => ?_)
        have eU : upd zF (i1) 0 = zF := upd_same rfl
        rw [eU] at hP hD
        have hP : va_P (dC, dI) vwCl [(h0, .inr (11, mFs r mv0)), ((r 59), .inl (cy 1, 39, .inl zF)), ((r 60), .inl (cy 1, 39, .inl zF))] H := hP
        have hD : va_D A [(h0, .inr (11, mFs r mv0)), ((r 59), .inl (cy 1, 39, .inl zF)), ((r 60), .inl (cy 1, 39, .inl zF))] := hD
        refine lv_iinc (v := (nI (i1 + 1))) (lv' := [(1, .int (nI (i1 + 1))), (0, .ref h0)]) hx hb dX11_fill_20 hl (k := 0) rfl (nI_1 (i1)) (by decide) rfl (fun ls hl => ?_)
        refine lv_goto (tgt := 2) hx hb dX11_fill_23 (by decide) ?_
        exact ih1 (i1 + 1) (by omega) (by omega) (by omega) _ _ _ (hP.sub [0, 1, 2] rfl) (hD.sub [0, 1, 2] (by decide) rfl) hS (lv_sub hl [0, 1] rfl)
  exact lp1 40 0 (by decide) (by decide) (by decide) _ _ _ (hP.sub [0, 1, 2] rfl) (hD.sub [0, 1, 2] (by decide) rfl) hS (lv_sub hl [0, 1] rfl)
theorem pt_X11_misfit_185 (p1 : Int32) (p2 : Int32) : ((-1) : Int32) = F_misfit p1 p2 := by
  unfold F_misfit
  (repeat' split)
  all_goals first | rfl | assumption | (exfalso; simp only [fa_lt, fa_le, fa_eq, tl_m1] at *; omega) | (simp only [fa_lt, fa_le, fa_eq, tl_m1] at *; omega)
set_option maxHeartbeats 4000000 in
set_option maxRecDepth 100000 in
theorem cnX11_misfit_1 (l : Launch) (dC : Nat → ClassId) (dI : Nat → Nat → Nat) (cy : Nat → ClassId) (h0 : Nat) (r : Nat → Nat) (p1 : Int32) (p2 : Int32) : ctI l (dC, dI) cy yX11_misfit cX11_misfit 3 .int 3 103 0 0 Unit [.ref h0, .int p1, .int p2] [(h0, .inr (11, mFs r mv0)), ((r 59), .inl (cy 1, 39, .inl zF)), ((r 60), .inl (cy 1, 39, .inl zF))] (fun r _ => r = F_misfit p1 p2) (fun u => []) := by
  refine ctI_of (by decide) (Nat.le_of_ble_eq_true rfl) (fun p e s m below meth c A ls Q hx hb hml hts hown hE hP hD hA hl ret => ?_)
  have hown : s.vm.findClass RX11 = some m.cls := hown
  have hS : va_S A s.heap s.heap [] := va_S.rf
  have hl : lv_has ls 3 [(0, .ref h0), (1, .int p1), (2, .int p2)] := hl
  refine lv_aload_n hx hb dX11_misfit_0 rfl (lv_at hl 0 rfl) ?_
  refine caVv (n := 0) (wr := []) (rest := []) hx hb hml hown hts hE hP hD hS hA (cnX11_fill_1 l dC dI cy h0 r) k_1739 k_1741 k_71 k_114 k_1742 (by decide +kernel) ⟨Nat.le_of_ble_eq_true rfl, Nat.le_of_ble_eq_true rfl⟩ [0, 1, 2] [] rfl rfl rfl (by decide) (by decide) (by decide) 0 11 rfl rfl rfl hl.1 rfl (Nat.le_of_ble_eq_true rfl) dX11_misfit_1 ⟨Nat.le_of_ble_eq_true rfl, Nat.le_of_ble_eq_true rfl⟩ (fun u H locs hw hP hD hS => ?_)
  have hP : va_P (dC, dI) vwCl [(h0, .inr (11, mFs r mv0)), ((r 59), .inl (cy 1, 39, .inl zF)), ((r 60), .inl (cy 1, 39, .inl zF))] H := hP
  have hD : va_D A [(h0, .inr (11, mFs r mv0)), ((r 59), .inl (cy 1, 39, .inl zF)), ((r 60), .inl (cy 1, 39, .inl zF))] := hD
  refine lv_aload_n hx hb dX11_misfit_4 rfl (lv_at hl 0 rfl) ?_
  refine lv_iload_n hx hb dX11_misfit_5 rfl (lv_at hl 1 rfl) ?_
  refine caVi (n := 1) (wr := [((r 59), .inl (cy 1, 39, .inl zF)), ((r 60), .inl (cy 1, 39, .inl zF))]) (rest := []) hx hb hml hown hts hE hP hD hS hA (cnX11_isMan_1 l dC dI cy h0 r p1) k_1732 k_1734 k_70 k_114 k_1735 (by decide +kernel) ⟨Nat.le_of_ble_eq_true rfl, Nat.le_of_ble_eq_true rfl⟩ [0] [1, 2] rfl rfl rfl (by decide) (by decide) (by decide) 0 11 rfl rfl rfl hl.1 rfl (Nat.le_of_ble_eq_true rfl) dX11_misfit_6 ⟨Nat.le_of_ble_eq_true rfl, Nat.le_of_ble_eq_true rfl⟩ (fun rr u H locs hw hP hD hS => ?_)
  have hP : va_P (dC, dI) vwCl [((r 59), .inl (cy 1, 39, .inl zF)), ((r 60), .inl (cy 1, 39, .inl zF)), (h0, .inr (11, mFs r mv0))] H := hP
  have hD : va_D A [((r 59), .inl (cy 1, 39, .inl zF)), ((r 60), .inl (cy 1, 39, .inl zF)), (h0, .inr (11, mFs r mv0))] := hD
  refine tI (y := 0) hw ?_
  refine lv_if_eq (tgt := 29) hx hb dX11_misfit_9 (by decide) (fun _ => ?_) (fun c0 => absurd (by decide) c0)
  refine lv_iconst (v := (-1)) hx hb dX11_misfit_29 (by decide) ?_
  exact ret (-1) () _ _ _ _ _ _ rfl (pt_X11_misfit_185 p1 p2) (hP.sub [] rfl) (hD.sub [] (by decide) rfl) hS dX11_misfit_30 (Nat.le_of_ble_eq_true rfl) (Nat.le_of_ble_eq_true rfl)
set_option maxHeartbeats 4000000 in
set_option maxRecDepth 100000 in
theorem cnX1_today_1 (l : Launch) (dC : Nat → ClassId) (dI : Nat → Nat → Nat) (cy : Nat → ClassId) (h0 : Nat) (h1 : Nat) (b0 : Nat) : ctI l (dC, dI) cy yX1_today cX1_today 1 .int 1 60 0 0 Unit [.ref h0] [(h0, .inr (1, [.ref b0, .ref h1])), (h1, .inl (cy 1, 44, .inl cF))] (fun r _ => r = 0) (fun u => [(h0, .inr (1, [.ref b0, .ref h1])), (h1, .inl (cy 1, 44, .inl cF))]) := by
  refine ctI_of (by decide) (Nat.le_of_ble_eq_true rfl) (fun p e s m below meth c A ls Q hx hb hml hts hown hE hP hD hA hl ret => ?_)
  have hown : s.vm.findClass RX1 = some m.cls := hown
  have hS : va_S A s.heap s.heap [] := va_S.rf
  have hl : lv_has ls 1 [(0, .ref h0)] := hl
  refine lv_aload_n hx hb dX1_today_0 rfl (lv_at hl 0 rfl) ?_
  refine va_get (D := (dC, dI)) (ci := 1) (v := .ref h1) (C := RX1) (T := TX1) (N := 2) hx hb hts inB_1 hown hE.1 hP 0 rfl rfl 1 (by decide) (hts _ k_319) (fun _ h9 => h9) rfl dX1_today_1 ?_
  refine lv_bipush (v := 42) hx hb dX1_today_4 (by decide) ?_
  refine ldI (k := 42) (v := 0) hx hb hE hP 1 rfl (vp_in_nI (n := 42) (by decide) (by decide)) (nI_clamp (n := 42) (by decide)) (by decide) dX1_today_6 ?_
  exact ret 0 () _ _ _ _ _ _ rfl rfl (hP.sub [0, 1] rfl) (hD.sub [0, 1] (by decide) rfl) hS dX1_today_7 (Nat.le_of_ble_eq_true rfl) (Nat.le_of_ble_eq_true rfl)
set_option maxHeartbeats 4000000 in
set_option maxRecDepth 100000 in
theorem cnX1_passDay_1 (l : Launch) (dC : Nat → ClassId) (dI : Nat → Nat → Nat) (cy : Nat → ClassId) (h0 : Nat) (h1 : Nat) (h2 : Nat) (b0 : Nat) (b1 : Nat) (b2 : Nat) : ctI l (dC, dI) cy yX1_passDay cX1_passDay 5 .int 1 60 0 0 Unit [.ref h0, .int 0] [(h0, .inr (1, [.ref h1, .ref h2])), (h1, .inr (7, [.ref b0, .ref b1, .ref b2, .int 0, .int 0, .int 10, .int 150, .int 2, .int 0, .int 0])), (h2, .inl (cy 1, 44, .inl cF))] (fun r _ => r = 0) (fun u => [(h0, .inr (1, [.ref h1, .ref h2])), (h1, .inr (7, [.ref b0, .ref b1, .ref b2, .int 0, .int 0, .int 10, .int 150, .int 2, .int 0, .int 0])), (h2, .inl (cy 1, 44, .inl (upd (upd cF 43 71) 42 1)))]) := by
  refine ctI_of (by decide) (Nat.le_of_ble_eq_true rfl) (fun p e s m below meth c A ls Q hx hb hml hts hown hE hP hD hA hl ret => ?_)
  have hown : s.vm.findClass RX1 = some m.cls := hown
  have hS : va_S A s.heap s.heap [] := va_S.rf
  have hl : lv_has ls 5 [(0, .ref h0), (1, .int 0)] := hl
  refine lv_iconst (v := 0) hx hb dX1_passDay_0 (by decide) ?_
  refine lv_istore_n (lv' := [(2, .int 0), (0, .ref h0), (1, .int 0)]) hx hb dX1_passDay_1 rfl hl (by decide) rfl (fun ls hl => ?_)
  refine lv_iload_n hx hb dX1_passDay_2 rfl (lv_at hl 0 rfl) ?_
  refine lv_aload_n hx hb dX1_passDay_3 rfl (lv_at hl 1 rfl) ?_
  refine va_get (D := (dC, dI)) (ci := 1) (v := .ref h1) (C := RX1) (T := TX1) (N := 2) hx hb hts inB_1 hown hE.1 hP 0 rfl rfl 0 (by decide) (hts _ k_318) (fun _ h9 => h9) rfl dX1_passDay_4 ?_
  refine va_getN (D := (dC, dI)) (ci := 7) (v := .int 0) (C := RX7) (T := TX7) (N := 10) hx hb hts inB_7 hown hE.1 hP 1 rfl rfl 3 (by decide) (va_Nw.use rfl (hE.2 _ k_219)) (fun _ h9 => h9) rfl dX1_passDay_7 ?_
  refine lv_icmp_ge (tgt := 46) hx hb dX1_passDay_10 (by decide) (fun _ => ?_) (fun c0 => absurd (by decide) c0)
  refine lv_aload_n hx hb dX1_passDay_46 rfl (lv_at hl 1 rfl) ?_
  refine va_get (D := (dC, dI)) (ci := 1) (v := .ref h2) (C := RX1) (T := TX1) (N := 2) hx hb hts inB_1 hown hE.1 hP 0 rfl rfl 1 (by decide) (hts _ k_319) (fun _ h9 => h9) rfl dX1_passDay_47 ?_
  refine lv_bipush (v := 43) hx hb dX1_passDay_50 (by decide) ?_
  refine lv_aload_n hx hb dX1_passDay_52 rfl (lv_at hl 1 rfl) ?_
  refine va_get (D := (dC, dI)) (ci := 1) (v := .ref h2) (C := RX1) (T := TX1) (N := 2) hx hb hts inB_1 hown hE.1 hP 0 rfl rfl 1 (by decide) (hts _ k_319) (fun _ h9 => h9) rfl dX1_passDay_53 ?_
  refine lv_bipush (v := 43) hx hb dX1_passDay_56 (by decide) ?_
  refine ldI (k := 43) (v := 0) hx hb hE hP 2 rfl (vp_in_nI (n := 43) (by decide) (by decide)) (nI_clamp (n := 43) (by decide)) (by decide) dX1_passDay_58 ?_
  refine lv_sipush (v := 137) hx hb dX1_passDay_59 (by decide) ?_
  refine lv_imul hx hb dX1_passDay_62 ?_
  refine tI (y := 0) (by decide) ?_
  refine lv_bipush (v := 71) hx hb dX1_passDay_63 (by decide) ?_
  refine lv_iadd hx hb dX1_passDay_65 ?_
  refine tI (y := 71) (by decide) ?_
  refine lv_sipush (v := 1000) hx hb dX1_passDay_66 (by decide) ?_
  refine lv_irem hx hb dX1_passDay_69 (by decide) ?_
  refine tI (y := 71) (by decide) ?_
  refine stI (k := 43) hx hb hE hP hD hS 2 rfl (vp_in_nI (n := 43) (by decide) (by decide)) (nI_clamp (n := 43) (by decide)) dX1_passDay_70 (fun H locs hP hD hS => ?_)
  have hP : va_P (dC, dI) vwCl [(h0, .inr (1, [.ref h1, .ref h2])), (h1, .inr (7, [.ref b0, .ref b1, .ref b2, .int 0, .int 0, .int 10, .int 150, .int 2, .int 0, .int 0])), (h2, .inl (cy 1, 44, .inl (upd cF 43 71)))] H := hP
  have hD : va_D A [(h0, .inr (1, [.ref h1, .ref h2])), (h1, .inr (7, [.ref b0, .ref b1, .ref b2, .int 0, .int 0, .int 10, .int 150, .int 2, .int 0, .int 0])), (h2, .inl (cy 1, 44, .inl (upd cF 43 71)))] := hD
  refine lv_aload_n hx hb dX1_passDay_71 rfl (lv_at hl 1 rfl) ?_
  refine va_get (D := (dC, dI)) (ci := 1) (v := .ref h2) (C := RX1) (T := TX1) (N := 2) hx hb hts inB_1 hown hE.1 hP 0 rfl rfl 1 (by decide) (hts _ k_319) (fun _ h9 => h9) rfl dX1_passDay_72 ?_
  refine lv_bipush (v := 43) hx hb dX1_passDay_75 (by decide) ?_
  refine ldI (k := 43) (v := 71) hx hb hE hP 2 rfl (vp_in_nI (n := 43) (by decide) (by decide)) (nI_clamp (n := 43) (by decide)) (by decide) dX1_passDay_77 ?_
  refine lv_bipush (v := 100) hx hb dX1_passDay_78 (by decide) ?_
  refine lv_irem hx hb dX1_passDay_80 (by decide) ?_
  refine tI (y := 71) (by decide) ?_
  refine lv_iload_n hx hb dX1_passDay_81 rfl (lv_at hl 2 rfl) ?_
  refine lv_icmp_ge (tgt := 89) hx hb dX1_passDay_82 (by decide) (fun _ => ?_) (fun c0 => absurd (by decide) c0)
  refine lv_iconst (v := 0) hx hb dX1_passDay_89 (by decide) ?_
  refine lv_istore_n (lv' := [(2, .int 0), (0, .ref h0), (1, .int 0)]) hx hb dX1_passDay_90 rfl hl (by decide) rfl (fun ls hl => ?_)
  refine lv_iconst (v := 0) hx hb dX1_passDay_91 (by decide) ?_
  refine lv_istore_n (lv' := [(3, .int 0), (2, .int 0), (0, .ref h0), (1, .int 0)]) hx hb dX1_passDay_92 rfl hl (by decide) rfl (fun ls hl => ?_)
  refine lv_iload_n hx hb dX1_passDay_93 rfl (lv_at hl 0 rfl) ?_
  refine lv_aload_n hx hb dX1_passDay_94 rfl (lv_at hl 2 rfl) ?_
  refine va_get (D := (dC, dI)) (ci := 1) (v := .ref h1) (C := RX1) (T := TX1) (N := 2) hx hb hts inB_1 hown hE.1 hP 0 rfl rfl 0 (by decide) (hts _ k_318) (fun _ h9 => h9) rfl dX1_passDay_95 ?_
  refine va_getN (D := (dC, dI)) (ci := 7) (v := .int 0) (C := RX7) (T := TX7) (N := 10) hx hb hts inB_7 hown hE.1 hP 1 rfl rfl 3 (by decide) (va_Nw.use rfl (hE.2 _ k_219)) (fun _ h9 => h9) rfl dX1_passDay_98 ?_
  refine lv_icmp_ge (tgt := 120) hx hb dX1_passDay_101 (by decide) (fun _ => ?_) (fun c0 => absurd (by decide) c0)
  refine lv_aload_n hx hb dX1_passDay_120 rfl (lv_at hl 2 rfl) ?_
  refine va_get (D := (dC, dI)) (ci := 1) (v := .ref h2) (C := RX1) (T := TX1) (N := 2) hx hb hts inB_1 hown hE.1 hP 0 rfl rfl 1 (by decide) (hts _ k_319) (fun _ h9 => h9) rfl dX1_passDay_121 ?_
  refine lv_bipush (v := 42) hx hb dX1_passDay_124 (by decide) ?_
  refine lv_dup2_11 hx hb dX1_passDay_126 rfl rfl ?_
  refine ldI (k := 42) (v := 0) hx hb hE hP 2 rfl (vp_in_nI (n := 42) (by decide) (by decide)) (nI_clamp (n := 42) (by decide)) (by decide) dX1_passDay_127 ?_
  refine lv_iconst (v := 1) hx hb dX1_passDay_128 (by decide) ?_
  refine lv_iadd hx hb dX1_passDay_129 ?_
  refine tI (y := 1) (by decide) ?_
  refine stI (k := 42) hx hb hE hP hD hS 2 rfl (vp_in_nI (n := 42) (by decide) (by decide)) (nI_clamp (n := 42) (by decide)) dX1_passDay_130 (fun H locs hP hD hS => ?_)
  have hP : va_P (dC, dI) vwCl [(h0, .inr (1, [.ref h1, .ref h2])), (h1, .inr (7, [.ref b0, .ref b1, .ref b2, .int 0, .int 0, .int 10, .int 150, .int 2, .int 0, .int 0])), (h2, .inl (cy 1, 44, .inl (upd (upd cF 43 71) 42 1)))] H := hP
  have hD : va_D A [(h0, .inr (1, [.ref h1, .ref h2])), (h1, .inr (7, [.ref b0, .ref b1, .ref b2, .int 0, .int 0, .int 10, .int 150, .int 2, .int 0, .int 0])), (h2, .inl (cy 1, 44, .inl (upd (upd cF 43 71) 42 1)))] := hD
  refine lv_iconst (v := 0) hx hb dX1_passDay_131 (by decide) ?_
  refine lv_istore_n (lv' := [(3, .int 0), (2, .int 0), (0, .ref h0), (1, .int 0)]) hx hb dX1_passDay_132 rfl hl (by decide) rfl (fun ls hl => ?_)
  refine lv_iconst (v := 0) hx hb dX1_passDay_133 (by decide) ?_
  refine lv_istore (lv' := [(4, .int 0), (3, .int 0), (2, .int 0), (0, .ref h0), (1, .int 0)]) hx hb dX1_passDay_134 hl (by decide) rfl (fun ls hl => ?_)
  refine lv_iload hx hb dX1_passDay_136 (lv_at hl 0 rfl) ?_
  refine lv_aload_n hx hb dX1_passDay_138 rfl (lv_at hl 3 rfl) ?_
  refine va_get (D := (dC, dI)) (ci := 1) (v := .ref h1) (C := RX1) (T := TX1) (N := 2) hx hb hts inB_1 hown hE.1 hP 0 rfl rfl 0 (by decide) (hts _ k_318) (fun _ h9 => h9) rfl dX1_passDay_139 ?_
  refine va_getN (D := (dC, dI)) (ci := 7) (v := .int 0) (C := RX7) (T := TX7) (N := 10) hx hb hts inB_7 hown hE.1 hP 1 rfl rfl 3 (by decide) (va_Nw.use rfl (hE.2 _ k_219)) (fun _ h9 => h9) rfl dX1_passDay_142 ?_
  refine lv_icmp_ge (tgt := 193) hx hb dX1_passDay_145 (by decide) (fun _ => ?_) (fun c0 => absurd (by decide) c0)
  refine lv_iload_n hx hb dX1_passDay_193 rfl (lv_at hl 1 rfl) ?_
  exact ret 0 () _ _ _ _ _ _ rfl rfl (hP.sub [0, 1, 2] rfl) (hD.sub [0, 1, 2] (by decide) rfl) hS dX1_passDay_194 (Nat.le_of_ble_eq_true rfl) (Nat.le_of_ble_eq_true rfl)
set_option maxHeartbeats 4000000 in
set_option maxRecDepth 100000 in
theorem cnX1_saveTo_2 (l : Launch) (dC : Nat → ClassId) (dI : Nat → Nat → Nat) (cy : Nat → ClassId) (h0 : Nat) (h1 : Nat) (h2 : Nat) (f0 : Nat → Int32) (b0 : Nat) (f1 : Nat → Int32) : ctV l (dC, dI) cy yX1_saveTo cX1_saveTo 3 1 100 0 0 Unit [.ref h1, .ref h0, .int 1] [(h0, .inl (cy 1, 1804, .inl f0)), (h1, .inr (1, [.ref b0, .ref h2])), (h2, .inl (cy 1, 44, .inl f1))] (fun _ => True) (fun u => [(h0, .inl (cy 1, 1804, .inl (va_cpy f1 f0 0 44 44))), (h1, .inr (1, [.ref b0, .ref h2])), (h2, .inl (cy 1, 44, .inl f1))]) := by
  refine ctV_of (by decide) (Nat.le_of_ble_eq_true rfl) (fun p e s m below meth c A ls Q hx hb hml hts hown hnm hE hP hD hA hl ret => ?_)
  have hown : s.vm.findClass RX1 = some m.cls := hown
  have hS : va_S A s.heap s.heap [] := va_S.rf
  have hl : lv_has ls 3 [(0, .ref h1), (1, .ref h0), (2, .int 1)] := hl
  refine lv_iload_n hx hb dX1_saveTo_0 rfl (lv_at hl 2 rfl) ?_
  refine lv_if_lt (tgt := 28) hx hb dX1_saveTo_1 (by decide) (fun c0 => absurd c0 (by decide)) (fun _ => ?_)
  refine lv_iload_n hx hb dX1_saveTo_4 rfl (lv_at hl 2 rfl) ?_
  refine lv_aload_n hx hb dX1_saveTo_5 rfl (lv_at hl 1 rfl) ?_
  refine va_alen (v := 1804) hx hb hE.1 hP 0 1 rfl rfl rfl dX1_saveTo_6 ?_
  refine lv_bipush (v := 44) hx hb dX1_saveTo_7 (by decide) ?_
  refine lv_idiv hx hb dX1_saveTo_9 (by decide) ?_
  refine tI (y := 41) (by decide) ?_
  refine lv_icmp_ge (tgt := 28) hx hb dX1_saveTo_10 (by decide) (fun c0 => absurd c0 (by decide)) (fun _ => ?_)
  refine lv_aload_n hx hb dX1_saveTo_13 rfl (lv_at hl 0 rfl) ?_
  refine va_get (D := (dC, dI)) (ci := 1) (v := .ref h2) (C := RX1) (T := TX1) (N := 2) hx hb hts inB_1 hown hE.1 hP 1 rfl rfl 1 (by decide) (hts _ k_319) (fun _ h9 => h9) rfl dX1_saveTo_14 ?_
  refine lv_iconst (v := 0) hx hb dX1_saveTo_17 (by decide) ?_
  refine lv_aload_n hx hb dX1_saveTo_18 rfl (lv_at hl 1 rfl) ?_
  refine lv_iload_n hx hb dX1_saveTo_19 rfl (lv_at hl 2 rfl) ?_
  refine lv_bipush (v := 44) hx hb dX1_saveTo_20 (by decide) ?_
  refine lv_imul hx hb dX1_saveTo_22 ?_
  refine tI (y := 44) (by decide) ?_
  refine lv_bipush (v := 44) hx hb dX1_saveTo_23 (by decide) ?_
  refine cpI (n := 44) (sp := 0) (dp := 44) (kn := 44) (ks := 0) (kd := 44) hx hb (by rw [hml]; exact hl.1.symm) hown (hts _ k_335) (hts _ k_337) (hts _ k_336) (hts _ k_108) hE hP hD hS 2 0 rfl rfl rfl rfl rfl (by decide) (by decide) (Nat.le_of_ble_eq_true rfl) (Nat.le_of_ble_eq_true rfl) dX1_saveTo_25 (fun H locs hP hD hS => ?_)
  have hP : va_P (dC, dI) vwCl [(h0, .inl (cy 1, 1804, .inl (va_cpy f1 f0 0 44 44))), (h1, .inr (1, [.ref b0, .ref h2])), (h2, .inl (cy 1, 44, .inl f1))] H := hP
  have hD : va_D A [(h0, .inl (cy 1, 1804, .inl (va_cpy f1 f0 0 44 44))), (h1, .inr (1, [.ref b0, .ref h2])), (h2, .inl (cy 1, 44, .inl f1))] := hD
  exact ret () _ _ _ _ _ _ trivial (hP.sub [0, 1, 2] rfl) (hD.sub [0, 1, 2] (by decide) rfl) hS dX1_saveTo_28 (Nat.le_of_ble_eq_true rfl) (Nat.le_of_ble_eq_true rfl)
set_option maxHeartbeats 4000000 in
set_option maxRecDepth 100000 in
theorem cnX5_keepAct_1 (l : Launch) (dC : Nat → ClassId) (dI : Nat → Nat → Nat) (cy : Nat → ClassId) (h0 : Nat) (h1 : Nat) (h2 : Nat) (h3 : Nat) (b0 : Nat) (f0 : Nat → Int32) (b1 : Nat) (f1 : Nat → Int32) : ctV l (dC, dI) cy yX5_keepAct cX5_keepAct 1 2 122 0 0 Unit [.ref h0] [(h0, .inr (5, [.ref h2, .ref h1, .ref b0, .int 0, .int 0, .int 0, .int 0])), (h1, .inl (cy 1, 1804, .inl f0)), (h2, .inr (1, [.ref b1, .ref h3])), (h3, .inl (cy 1, 44, .inl f1))] (fun _ => True) (fun u => [(h0, .inr (5, [.ref h2, .ref h1, .ref b0, .int 0, .int 0, .int 1, .int 0])), (h1, .inl (cy 1, 1804, .inl (va_cpy f1 f0 0 44 44))), (h2, .inr (1, [.ref b1, .ref h3])), (h3, .inl (cy 1, 44, .inl f1))]) := by
  refine ctV_of (by decide) (Nat.le_of_ble_eq_true rfl) (fun p e s m below meth c A ls Q hx hb hml hts hown hnm hE hP hD hA hl ret => ?_)
  have hown : s.vm.findClass RX5 = some m.cls := hown
  have hS : va_S A s.heap s.heap [] := va_S.rf
  have hl : lv_has ls 1 [(0, .ref h0)] := hl
  refine lv_aload_n hx hb dX5_keepAct_0 rfl (lv_at hl 0 rfl) ?_
  refine lv_iconst (v := 0) hx hb dX5_keepAct_1 (by decide) ?_
  refine va_put (D := (dC, dI)) (ci := 5) (v := .int 0) (ty := tyX5 6) (C := RX5) (T := TX5) (N := 7) hx hb hts inB_5 tyX5 tyX5_ok nmX5 hown hE.1 hP hD hS 0 rfl rfl 6 (by decide) (hts _ k_345) (fun _ h9 => h9) rfl (tyX5_ok 6 (by decide)) rfl rfl (Nat.le_of_ble_eq_true rfl) dX5_keepAct_2 (fun H locs hP hD hS => ?_)
  have hP : va_P (dC, dI) vwCl [(h0, .inr (5, [.ref h2, .ref h1, .ref b0, .int 0, .int 0, .int 0, .int 0])), (h1, .inl (cy 1, 1804, .inl f0)), (h2, .inr (1, [.ref b1, .ref h3])), (h3, .inl (cy 1, 44, .inl f1))] H := hP
  have hD : va_D A [(h0, .inr (5, [.ref h2, .ref h1, .ref b0, .int 0, .int 0, .int 0, .int 0])), (h1, .inl (cy 1, 1804, .inl f0)), (h2, .inr (1, [.ref b1, .ref h3])), (h3, .inl (cy 1, 44, .inl f1))] := hD
  refine lv_aload_n hx hb dX5_keepAct_5 rfl (lv_at hl 0 rfl) ?_
  refine va_get (D := (dC, dI)) (ci := 5) (v := .int 0) (C := RX5) (T := TX5) (N := 7) hx hb hts inB_5 hown hE.1 hP 0 rfl rfl 5 (by decide) (hts _ k_343) (fun _ h9 => h9) rfl dX5_keepAct_6 ?_
  refine lv_bipush (v := 40) hx hb dX5_keepAct_9 (by decide) ?_
  refine lv_icmp_ge (tgt := 27) hx hb dX5_keepAct_11 (by decide) (fun c0 => absurd c0 (by decide)) (fun _ => ?_)
  refine lv_aload_n hx hb dX5_keepAct_14 rfl (lv_at hl 0 rfl) ?_
  refine lv_dup hx hb dX5_keepAct_15 rfl ?_
  refine va_get (D := (dC, dI)) (ci := 5) (v := .int 0) (C := RX5) (T := TX5) (N := 7) hx hb hts inB_5 hown hE.1 hP 0 rfl rfl 5 (by decide) (hts _ k_343) (fun _ h9 => h9) rfl dX5_keepAct_16 ?_
  refine lv_iconst (v := 1) hx hb dX5_keepAct_19 (by decide) ?_
  refine lv_iadd hx hb dX5_keepAct_20 ?_
  refine tI (y := 1) (by decide) ?_
  refine va_put (D := (dC, dI)) (ci := 5) (v := .int 1) (ty := tyX5 5) (C := RX5) (T := TX5) (N := 7) hx hb hts inB_5 tyX5 tyX5_ok nmX5 hown hE.1 hP hD hS 0 rfl rfl 5 (by decide) (hts _ k_343) (fun _ h9 => h9) rfl (tyX5_ok 5 (by decide)) rfl rfl (Nat.le_of_ble_eq_true rfl) dX5_keepAct_21 (fun H locs hP hD hS => ?_)
  have hP : va_P (dC, dI) vwCl [(h0, .inr (5, [.ref h2, .ref h1, .ref b0, .int 0, .int 0, .int 1, .int 0])), (h1, .inl (cy 1, 1804, .inl f0)), (h2, .inr (1, [.ref b1, .ref h3])), (h3, .inl (cy 1, 44, .inl f1))] H := hP
  have hD : va_D A [(h0, .inr (5, [.ref h2, .ref h1, .ref b0, .int 0, .int 0, .int 1, .int 0])), (h1, .inl (cy 1, 1804, .inl f0)), (h2, .inr (1, [.ref b1, .ref h3])), (h3, .inl (cy 1, 44, .inl f1))] := hD
  refine lv_goto (tgt := 40) hx hb dX5_keepAct_24 (by decide) ?_
  refine lv_aload_n hx hb dX5_keepAct_40 rfl (lv_at hl 0 rfl) ?_
  refine va_get (D := (dC, dI)) (ci := 5) (v := .ref h2) (C := RX5) (T := TX5) (N := 7) hx hb hts inB_5 hown hE.1 hP 0 rfl rfl 0 (by decide) (hts _ k_338) (fun _ h9 => h9) rfl dX5_keepAct_41 ?_
  refine lv_aload_n hx hb dX5_keepAct_44 rfl (lv_at hl 0 rfl) ?_
  refine va_get (D := (dC, dI)) (ci := 5) (v := .ref h1) (C := RX5) (T := TX5) (N := 7) hx hb hts inB_5 hown hE.1 hP 0 rfl rfl 1 (by decide) (hts _ k_339) (fun _ h9 => h9) rfl dX5_keepAct_45 ?_
  refine lv_aload_n hx hb dX5_keepAct_48 rfl (lv_at hl 0 rfl) ?_
  refine va_get (D := (dC, dI)) (ci := 5) (v := .int 0) (C := RX5) (T := TX5) (N := 7) hx hb hts inB_5 hown hE.1 hP 0 rfl rfl 4 (by decide) (hts _ k_342) (fun _ h9 => h9) rfl dX5_keepAct_49 ?_
  refine lv_aload_n hx hb dX5_keepAct_52 rfl (lv_at hl 0 rfl) ?_
  refine va_get (D := (dC, dI)) (ci := 5) (v := .int 1) (C := RX5) (T := TX5) (N := 7) hx hb hts inB_5 hown hE.1 hP 0 rfl rfl 5 (by decide) (hts _ k_343) (fun _ h9 => h9) rfl dX5_keepAct_53 ?_
  refine lv_iadd hx hb dX5_keepAct_56 ?_
  refine tI (y := 1) (by decide) ?_
  refine lv_bipush (v := 41) hx hb dX5_keepAct_57 (by decide) ?_
  refine lv_irem hx hb dX5_keepAct_59 (by decide) ?_
  refine tI (y := 1) (by decide) ?_
  refine caVv (n := 2) (wr := [(h0, .inr (5, [.ref h2, .ref h1, .ref b0, .int 0, .int 0, .int 1, .int 0]))]) (rest := []) hx hb hml hown hts hE hP hD hS hA (cnX1_saveTo_2 l dC dI cy h1 h2 h3 f0 b1 f1) k_331 k_332 k_333 k_106 k_334 (by decide +kernel) ⟨Nat.le_of_ble_eq_true rfl, Nat.le_of_ble_eq_true rfl⟩ [1, 2, 3] [0] rfl rfl rfl (by decide) (by decide) (by decide) 1 1 rfl rfl rfl hl.1 rfl (Nat.le_of_ble_eq_true rfl) dX5_keepAct_60 ⟨Nat.le_of_ble_eq_true rfl, Nat.le_of_ble_eq_true rfl⟩ (fun u H locs hw hP hD hS => ?_)
  have hP : va_P (dC, dI) vwCl [(h0, .inr (5, [.ref h2, .ref h1, .ref b0, .int 0, .int 0, .int 1, .int 0])), (h1, .inl (cy 1, 1804, .inl (va_cpy f1 f0 0 44 44))), (h2, .inr (1, [.ref b1, .ref h3])), (h3, .inl (cy 1, 44, .inl f1))] H := hP
  have hD : va_D A [(h0, .inr (5, [.ref h2, .ref h1, .ref b0, .int 0, .int 0, .int 1, .int 0])), (h1, .inl (cy 1, 1804, .inl (va_cpy f1 f0 0 44 44))), (h2, .inr (1, [.ref b1, .ref h3])), (h3, .inl (cy 1, 44, .inl f1))] := hD
  exact ret () _ _ _ _ _ _ trivial (hP.sub [0, 1, 2, 3] rfl) (hD.sub [0, 1, 2, 3] (by decide) rfl) hS dX5_keepAct_63 (Nat.le_of_ble_eq_true rfl) (Nat.le_of_ble_eq_true rfl)
theorem pt_X10_day_186 : (0 : Int32) = F_day  := by
  unfold F_day
  (repeat' split)
  all_goals first | rfl | assumption | (exfalso; simp only [fa_lt, fa_le, fa_eq, tl_0] at *; omega) | (simp only [fa_lt, fa_le, fa_eq, tl_0] at *; omega)
set_option maxHeartbeats 4000000 in
set_option maxRecDepth 100000 in
theorem cnX10_day_1 (l : Launch) (dC : Nat → ClassId) (dI : Nat → Nat → Nat) (cy : Nat → ClassId) (h0 : Nat) (h1 : Nat) (h2 : Nat) (h3 : Nat) (h4 : Nat) (h5 : Nat) (b0 : Nat) (b1 : Nat) (b2 : Nat) (b3 : Nat) (b4 : Nat) (b5 : Nat) (b6 : Nat) (b7 : Nat) (b8 : Nat) (b9 : Nat) (f0 : Nat → Int32) : ctI l (dC, dI) cy yX10_day cX10_day 2 .int 3 142 0 0 Unit [.ref h0] [(h0, .inr (10, [.ref b0, .ref b1, .ref h3, .ref h1, .ref h4, .ref b2, .ref b3, .ref b4, .ref b5, .int 0])), (h1, .inr (1, [.ref h3, .ref h2])), (h2, .inl (cy 1, 44, .inl cF)), (h3, .inr (7, [.ref b6, .ref b7, .ref b8, .int 0, .int 0, .int 10, .int 150, .int 2, .int 0, .int 0])), (h4, .inr (5, [.ref h1, .ref h5, .ref b9, .int 0, .int 0, .int 0, .int 0])), (h5, .inl (cy 1, 1804, .inl f0))] (fun r _ => r = F_day ) (fun u => []) := by
  refine ctI_of (by decide) (Nat.le_of_ble_eq_true rfl) (fun p e s m below meth c A ls Q hx hb hml hts hown hE hP hD hA hl ret => ?_)
  have hown : s.vm.findClass RX10 = some m.cls := hown
  have hS : va_S A s.heap s.heap [] := va_S.rf
  have hl : lv_has ls 2 [(0, .ref h0)] := hl
  refine lv_aload_n hx hb dX10_day_0 rfl (lv_at hl 0 rfl) ?_
  refine va_get (D := (dC, dI)) (ci := 10) (v := .ref h1) (C := RX10) (T := TX10) (N := 10) hx hb hts inB_10 hown hE.1 hP 0 rfl rfl 3 (by decide) (hts _ k_494) (fun _ h9 => h9) rfl dX10_day_1 ?_
  refine caVi (n := 0) (wr := [(h0, .inr (10, [.ref b0, .ref b1, .ref h3, .ref h1, .ref h4, .ref b2, .ref b3, .ref b4, .ref b5, .int 0])), (h3, .inr (7, [.ref b6, .ref b7, .ref b8, .int 0, .int 0, .int 10, .int 150, .int 2, .int 0, .int 0])), (h4, .inr (5, [.ref h1, .ref h5, .ref b9, .int 0, .int 0, .int 0, .int 0])), (h5, .inl (cy 1, 1804, .inl f0))]) (rest := []) hx hb hml hown hts hE hP hD hS hA (cnX1_today_1 l dC dI cy h1 h2 h3) k_864 k_832 k_833 k_106 k_834 (by decide +kernel) ⟨Nat.le_of_ble_eq_true rfl, Nat.le_of_ble_eq_true rfl⟩ [1, 2] [0, 3, 4, 5] rfl rfl rfl (by decide) (by decide) (by decide) 0 1 rfl rfl rfl hl.1 rfl (Nat.le_of_ble_eq_true rfl) dX10_day_4 ⟨Nat.le_of_ble_eq_true rfl, Nat.le_of_ble_eq_true rfl⟩ (fun rr u H locs hw hP hD hS => ?_)
  have hP : va_P (dC, dI) vwCl [(h0, .inr (10, [.ref b0, .ref b1, .ref h3, .ref h1, .ref h4, .ref b2, .ref b3, .ref b4, .ref b5, .int 0])), (h3, .inr (7, [.ref b6, .ref b7, .ref b8, .int 0, .int 0, .int 10, .int 150, .int 2, .int 0, .int 0])), (h4, .inr (5, [.ref h1, .ref h5, .ref b9, .int 0, .int 0, .int 0, .int 0])), (h5, .inl (cy 1, 1804, .inl f0)), (h1, .inr (1, [.ref h3, .ref h2])), (h2, .inl (cy 1, 44, .inl cF))] H := hP
  have hD : va_D A [(h0, .inr (10, [.ref b0, .ref b1, .ref h3, .ref h1, .ref h4, .ref b2, .ref b3, .ref b4, .ref b5, .int 0])), (h3, .inr (7, [.ref b6, .ref b7, .ref b8, .int 0, .int 0, .int 10, .int 150, .int 2, .int 0, .int 0])), (h4, .inr (5, [.ref h1, .ref h5, .ref b9, .int 0, .int 0, .int 0, .int 0])), (h5, .inl (cy 1, 1804, .inl f0)), (h1, .inr (1, [.ref h3, .ref h2])), (h2, .inl (cy 1, 44, .inl cF))] := hD
  refine tI (y := 0) hw ?_
  refine lv_sipush (v := 999) hx hb dX10_day_7 (by decide) ?_
  refine lv_icmp_lt (tgt := 15) hx hb dX10_day_10 (by decide) (fun _ => ?_) (fun c0 => absurd (by decide) c0)
  refine lv_aload_n hx hb dX10_day_15 rfl (lv_at hl 0 rfl) ?_
  refine va_get (D := (dC, dI)) (ci := 10) (v := .ref h1) (C := RX10) (T := TX10) (N := 10) hx hb hts inB_10 hown hE.1 hP 0 rfl rfl 3 (by decide) (hts _ k_494) (fun _ h9 => h9) rfl dX10_day_16 ?_
  refine lv_aload_n hx hb dX10_day_19 rfl (lv_at hl 0 rfl) ?_
  refine va_get (D := (dC, dI)) (ci := 10) (v := .ref h3) (C := RX10) (T := TX10) (N := 10) hx hb hts inB_10 hown hE.1 hP 0 rfl rfl 2 (by decide) (hts _ k_493) (fun _ h9 => h9) rfl dX10_day_20 ?_
  refine va_getN (D := (dC, dI)) (ci := 7) (v := .int 0) (C := RX7) (T := TX7) (N := 10) hx hb hts inB_7 hown hE.1 hP 1 rfl rfl 8 (by decide) (va_Nw.use rfl (hE.2 _ k_241)) (fun _ h9 => h9) rfl dX10_day_23 ?_
  refine caVi (n := 1) (wr := [(h0, .inr (10, [.ref b0, .ref b1, .ref h3, .ref h1, .ref h4, .ref b2, .ref b3, .ref b4, .ref b5, .int 0])), (h4, .inr (5, [.ref h1, .ref h5, .ref b9, .int 0, .int 0, .int 0, .int 0])), (h5, .inl (cy 1, 1804, .inl f0))]) (rest := []) hx hb hml hown hts hE hP hD hS hA (cnX1_passDay_1 l dC dI cy h1 h3 h2 b6 b7 b8) k_865 k_866 k_867 k_106 k_868 (by decide +kernel) ⟨Nat.le_of_ble_eq_true rfl, Nat.le_of_ble_eq_true rfl⟩ [4, 1, 5] [0, 2, 3] rfl rfl rfl (by decide) (by decide) (by decide) 0 1 rfl rfl rfl hl.1 rfl (Nat.le_of_ble_eq_true rfl) dX10_day_26 ⟨Nat.le_of_ble_eq_true rfl, Nat.le_of_ble_eq_true rfl⟩ (fun rr u H locs hw hP hD hS => ?_)
  have hP : va_P (dC, dI) vwCl [(h0, .inr (10, [.ref b0, .ref b1, .ref h3, .ref h1, .ref h4, .ref b2, .ref b3, .ref b4, .ref b5, .int 0])), (h4, .inr (5, [.ref h1, .ref h5, .ref b9, .int 0, .int 0, .int 0, .int 0])), (h5, .inl (cy 1, 1804, .inl f0)), (h1, .inr (1, [.ref h3, .ref h2])), (h3, .inr (7, [.ref b6, .ref b7, .ref b8, .int 0, .int 0, .int 10, .int 150, .int 2, .int 0, .int 0])), (h2, .inl (cy 1, 44, .inl (upd (upd cF 43 71) 42 1)))] H := hP
  have hD : va_D A [(h0, .inr (10, [.ref b0, .ref b1, .ref h3, .ref h1, .ref h4, .ref b2, .ref b3, .ref b4, .ref b5, .int 0])), (h4, .inr (5, [.ref h1, .ref h5, .ref b9, .int 0, .int 0, .int 0, .int 0])), (h5, .inl (cy 1, 1804, .inl f0)), (h1, .inr (1, [.ref h3, .ref h2])), (h3, .inr (7, [.ref b6, .ref b7, .ref b8, .int 0, .int 0, .int 10, .int 150, .int 2, .int 0, .int 0])), (h2, .inl (cy 1, 44, .inl (upd (upd cF 43 71) 42 1)))] := hD
  refine tI (y := 0) hw ?_
  refine lv_istore_n (lv' := [(1, .int 0), (0, .ref h0)]) hx hb dX10_day_29 rfl hl (by decide) rfl (fun ls hl => ?_)
  refine lv_aload_n hx hb dX10_day_30 rfl (lv_at hl 1 rfl) ?_
  refine va_get (D := (dC, dI)) (ci := 10) (v := .ref h4) (C := RX10) (T := TX10) (N := 10) hx hb hts inB_10 hown hE.1 hP 0 rfl rfl 4 (by decide) (hts _ k_495) (fun _ h9 => h9) rfl dX10_day_31 ?_
  refine caVv (n := 0) (wr := [(h0, .inr (10, [.ref b0, .ref b1, .ref h3, .ref h1, .ref h4, .ref b2, .ref b3, .ref b4, .ref b5, .int 0])), (h3, .inr (7, [.ref b6, .ref b7, .ref b8, .int 0, .int 0, .int 10, .int 150, .int 2, .int 0, .int 0]))]) (rest := []) hx hb hml hown hts hE hP hD hS hA (cnX5_keepAct_1 l dC dI cy h4 h5 h1 h2 b9 f0 h3 (upd (upd cF 43 71) 42 1)) k_883 k_884 k_885 k_107 k_886 (by decide +kernel) ⟨Nat.le_of_ble_eq_true rfl, Nat.le_of_ble_eq_true rfl⟩ [1, 2, 3, 5] [0, 4] rfl rfl rfl (by decide) (by decide) (by decide) 0 5 rfl rfl rfl hl.1 rfl (Nat.le_of_ble_eq_true rfl) dX10_day_34 ⟨Nat.le_of_ble_eq_true rfl, Nat.le_of_ble_eq_true rfl⟩ (fun u H locs hw hP hD hS => ?_)
  have hP : va_P (dC, dI) vwCl [(h0, .inr (10, [.ref b0, .ref b1, .ref h3, .ref h1, .ref h4, .ref b2, .ref b3, .ref b4, .ref b5, .int 0])), (h3, .inr (7, [.ref b6, .ref b7, .ref b8, .int 0, .int 0, .int 10, .int 150, .int 2, .int 0, .int 0])), (h4, .inr (5, [.ref h1, .ref h5, .ref b9, .int 0, .int 0, .int 1, .int 0])), (h5, .inl (cy 1, 1804, .inl (va_cpy (upd (upd cF 43 71) 42 1) f0 0 44 44))), (h1, .inr (1, [.ref h3, .ref h2])), (h2, .inl (cy 1, 44, .inl (upd (upd cF 43 71) 42 1)))] H := hP
  have hD : va_D A [(h0, .inr (10, [.ref b0, .ref b1, .ref h3, .ref h1, .ref h4, .ref b2, .ref b3, .ref b4, .ref b5, .int 0])), (h3, .inr (7, [.ref b6, .ref b7, .ref b8, .int 0, .int 0, .int 10, .int 150, .int 2, .int 0, .int 0])), (h4, .inr (5, [.ref h1, .ref h5, .ref b9, .int 0, .int 0, .int 1, .int 0])), (h5, .inl (cy 1, 1804, .inl (va_cpy (upd (upd cF 43 71) 42 1) f0 0 44 44))), (h1, .inr (1, [.ref h3, .ref h2])), (h2, .inl (cy 1, 44, .inl (upd (upd cF 43 71) 42 1)))] := hD
  refine lv_iload_n hx hb dX10_day_37 rfl (lv_at hl 0 rfl) ?_
  exact ret 0 () _ _ _ _ _ _ rfl (pt_X10_day_186 ) (hP.sub [] rfl) (hD.sub [] (by decide) rfl) hS dX10_day_38 (Nat.le_of_ble_eq_true rfl) (Nat.le_of_ble_eq_true rfl)
theorem po_X11_fill_192 (i1 : Nat) (gi1 : 0 ≤ i1) (hi1 : i1 ≤ 39) (c2 : 39 ≤ (nI (i1))) : i1 = 39 := by have ti_0 : (nI (i1)).toInt = (((i1 : Nat)) : Int) := nI_toInt (by omega); simp only [fa_lt, fa_le, fa_eq, tl_39, ti_0] at *; omega
theorem po_X11_fill_193 (i1 : Nat) (gi1 : 0 ≤ i1) (hi1 : i1 ≤ 39) (c2 : ¬ 39 ≤ (nI (i1))) : i1 < 39 := by have ti_0 : (nI (i1)).toInt = (((i1 : Nat)) : Int) := nI_toInt (by omega); simp only [fa_lt, fa_le, fa_eq, tl_39, ti_0] at *; omega
set_option maxHeartbeats 4000000 in
set_option maxRecDepth 100000 in
theorem cnX11_fill_2 (l : Launch) (dC : Nat → ClassId) (dI : Nat → Nat → Nat) (cy : Nat → ClassId) (h0 : Nat) (r : Nat → Nat) : ctV l (dC, dI) cy yX11_fill cX11_fill 2 1 60 0 0 Unit [.ref h0] [(h0, .inr (11, mFs r (upd mv0 62 1))), ((r 59), .inl (cy 1, 39, .inl zF)), ((r 60), .inl (cy 1, 39, .inl zF))] (fun _ => True) (fun u => [(h0, .inr (11, mFs r (upd mv0 62 1))), ((r 59), .inl (cy 1, 39, .inl zF)), ((r 60), .inl (cy 1, 39, .inl zF))]) := by
  refine ctV_of (by decide) (Nat.le_of_ble_eq_true rfl) (fun p e s m below meth c A ls Q hx hb hml hts hown hnm hE hP hD hA hl ret => ?_)
  have hown : s.vm.findClass RX11 = some m.cls := hown
  have hS : va_S A s.heap s.heap [] := va_S.rf
  have hl : lv_has ls 2 [(0, .ref h0)] := hl
  refine lv_iconst (v := 0) hx hb dX11_fill_0 (by decide) ?_
  refine lv_istore_n (lv' := [(1, .int 0), (0, .ref h0)]) hx hb dX11_fill_1 rfl hl (by decide) rfl (fun ls hl => ?_)
  have lp1 : ∀ (n i1 : Nat), 0 ≤ i1 → i1 ≤ 39 → 39 < i1 + n → ∀ (H : Heap) (locs : List Loc) (ls : Array Slot), va_P (dC, dI) vwCl [(h0, .inr (11, mFs r (upd mv0 62 1))), ((r 59), .inl (cy 1, 39, .inl zF)), ((r 60), .inl (cy 1, 39, .inl zF))] H → va_D A [(h0, .inr (11, mFs r (upd mv0 62 1))), ((r 59), .inl (cy 1, 39, .inl zF)), ((r 60), .inl (cy 1, 39, .inl zF))] → va_S A s.heap H locs → lv_has ls 2 [(1, .int (nI (i1))), (0, .ref h0)] → W p l e { frames := 1, cells := 0, slots := 0, locals := 60 } s m ([.ref h0] : List Value).toArray below meth c H locs 0 0 Q (F0 m 2 ls []) := by
    intro n
    induction n with
    | zero => intro i1 h0 h1 h2; exact absurd h2 (by omega)
    | succ n ih1 =>
      intro i1 hloi1 hi1 hin H locs ls hP hD hS hl
      refine lv_iload_n hx hb dX11_fill_2 rfl (lv_at hl 0 rfl) ?_
      refine lv_bipush (v := 39) hx hb dX11_fill_3 (by decide) ?_
      refine lv_icmp_ge (tgt := 26) hx hb dX11_fill_5 (by decide) (fun c2 => ?_) (fun c2 => ?_)
      · skip
        have hsi1 : i1 = 39 := (po_X11_fill_192 i1 hloi1 hi1 c2)
        subst hsi1
        exact ret () _ _ _ _ _ _ trivial (hP.sub [0, 1, 2] rfl) (hD.sub [0, 1, 2] (by decide) rfl) hS dX11_fill_26 (Nat.le_of_ble_eq_true rfl) (Nat.le_of_ble_eq_true rfl)
      · skip
        have hsi1 : i1 < 39 := (po_X11_fill_193 i1 hloi1 hi1 c2)
        refine lv_aload_n hx hb dX11_fill_8 rfl (lv_at hl 1 rfl) ?_
        refine va_get (D := (dC, dI)) (ci := 11) (v := .ref (r 60)) (C := RX11) (T := TX11) (N := 79) hx hb hts inB_11 hown hE.1 hP 0 rfl rfl 60 (by decide) (hts _ k_1380) (fun _ h9 => h9) rfl dX11_fill_9 ?_
        refine lv_iload_n hx hb dX11_fill_12 rfl (lv_at hl 0 rfl) ?_
        refine lv_aload_n hx hb dX11_fill_13 rfl (lv_at hl 1 rfl) ?_
        refine va_get (D := (dC, dI)) (ci := 11) (v := .ref (r 59)) (C := RX11) (T := TX11) (N := 79) hx hb hts inB_11 hown hE.1 hP 0 rfl rfl 59 (by decide) (hts _ k_1379) (fun _ h9 => h9) rfl dX11_fill_14 ?_
        refine lv_iload_n hx hb dX11_fill_17 rfl (lv_at hl 0 rfl) ?_
        refine ldI (k := (i1)) (v := 0) hx hb hE hP 1 rfl (vp_in_nI (by omega) (by decide)) (nI_clamp (by omega)) rfl dX11_fill_18 ?_
        refine stI (k := (i1)) hx hb hE hP hD hS 2 rfl (vp_in_nI (by omega) (by decide)) (nI_clamp (by omega)) dX11_fill_19 (fun H locs hP hD hS => ?_)
        have eU : upd zF (i1) 0 = zF := upd_same rfl
        rw [eU] at hP hD
        have hP : va_P (dC, dI) vwCl [(h0, .inr (11, mFs r (upd mv0 62 1))), ((r 59), .inl (cy 1, 39, .inl zF)), ((r 60), .inl (cy 1, 39, .inl zF))] H := hP
        have hD : va_D A [(h0, .inr (11, mFs r (upd mv0 62 1))), ((r 59), .inl (cy 1, 39, .inl zF)), ((r 60), .inl (cy 1, 39, .inl zF))] := hD
        refine lv_iinc (v := (nI (i1 + 1))) (lv' := [(1, .int (nI (i1 + 1))), (0, .ref h0)]) hx hb dX11_fill_20 hl (k := 0) rfl (nI_1 (i1)) (by decide) rfl (fun ls hl => ?_)
        refine lv_goto (tgt := 2) hx hb dX11_fill_23 (by decide) ?_
        exact ih1 (i1 + 1) (by omega) (by omega) (by omega) _ _ _ (hP.sub [0, 1, 2] rfl) (hD.sub [0, 1, 2] (by decide) rfl) hS (lv_sub hl [0, 1] rfl)
  exact lp1 40 0 (by decide) (by decide) (by decide) _ _ _ (hP.sub [0, 1, 2] rfl) (hD.sub [0, 1, 2] (by decide) rfl) hS (lv_sub hl [0, 1] rfl)
theorem po_X11_act_199 (i1 : Nat) (gi1 : 0 ≤ i1) (hi1 : i1 ≤ 39) (c2 : 39 ≤ (nI (i1))) : i1 = 39 := by have ti_0 : (nI (i1)).toInt = (((i1 : Nat)) : Int) := nI_toInt (by omega); simp only [fa_lt, fa_le, fa_eq, tl_39, ti_0] at *; omega
theorem po_X11_act_202 (i1 : Nat) (gi1 : 0 ≤ i1) (hi1 : i1 ≤ 39) (c2 : ¬ 39 ≤ (nI (i1))) : i1 < 39 := by have ti_0 : (nI (i1)).toInt = (((i1 : Nat)) : Int) := nI_toInt (by omega); simp only [fa_lt, fa_le, fa_eq, tl_39, ti_0] at *; omega
set_option maxHeartbeats 4000000 in
set_option maxRecDepth 100000 in
theorem cnX11_act_1 (l : Launch) (dC : Nat → ClassId) (dI : Nat → Nat → Nat) (cy : Nat → ClassId) (h0 : Nat) (r : Nat → Nat) : ctV l (dC, dI) cy yX11_act cX11_act 2 2 81 0 0 Unit [.ref h0] [(h0, .inr (11, mFs r mv0)), ((r 59), .inl (cy 1, 39, .inl zF)), ((r 60), .inl (cy 1, 39, .inl zF)), ((r 61), .inl (cy 1, 1560, .inl zF))] (fun _ => True) (fun u => [(h0, .inr (11, mFs r (upd mv0 62 1))), ((r 59), .inl (cy 1, 39, .inl zF)), ((r 60), .inl (cy 1, 39, .inl zF)), ((r 61), .inl (cy 1, 1560, .inl zF))]) := by
  refine ctV_of (by decide) (Nat.le_of_ble_eq_true rfl) (fun p e s m below meth c A ls Q hx hb hml hts hown hnm hE hP hD hA hl ret => ?_)
  have hown : s.vm.findClass RX11 = some m.cls := hown
  have hS : va_S A s.heap s.heap [] := va_S.rf
  have hl : lv_has ls 2 [(0, .ref h0)] := hl
  refine lv_aload_n hx hb dX11_act_0 rfl (lv_at hl 0 rfl) ?_
  refine va_get (D := (dC, dI)) (ci := 11) (v := .int 0) (C := RX11) (T := TX11) (N := 79) hx hb hts inB_11 hown hE.1 hP 0 rfl rfl 62 (by decide) (hts _ k_1382) (fun _ h9 => h9) rfl dX11_act_1 ?_
  refine lv_bipush (v := 40) hx hb dX11_act_4 (by decide) ?_
  refine lv_icmp_ne (tgt := 49) hx hb dX11_act_6 (by decide) (fun _ => ?_) (fun c0 => absurd c0 (by decide))
  refine lv_iconst (v := 0) hx hb dX11_act_49 (by decide) ?_
  refine lv_istore_n (lv' := [(1, .int 0), (0, .ref h0)]) hx hb dX11_act_50 rfl hl (by decide) rfl (fun ls hl => ?_)
  have lp1 : ∀ (n i1 : Nat), 0 ≤ i1 → i1 ≤ 39 → 39 < i1 + n → ∀ (H : Heap) (locs : List Loc) (ls : Array Slot), va_P (dC, dI) vwCl [(h0, .inr (11, mFs r mv0)), ((r 59), .inl (cy 1, 39, .inl zF)), ((r 60), .inl (cy 1, 39, .inl zF)), ((r 61), .inl (cy 1, 1560, .inl zF))] H → va_D A [(h0, .inr (11, mFs r mv0)), ((r 59), .inl (cy 1, 39, .inl zF)), ((r 60), .inl (cy 1, 39, .inl zF)), ((r 61), .inl (cy 1, 1560, .inl zF))] → va_S A s.heap H locs → lv_has ls 2 [(1, .int (nI (i1))), (0, .ref h0)] → W p l e { frames := 2, cells := 0, slots := 0, locals := 81 } s m ([.ref h0] : List Value).toArray below meth c H locs 0 0 Q (F0 m 51 ls []) := by
    intro n
    induction n with
    | zero => intro i1 h0 h1 h2; exact absurd h2 (by omega)
    | succ n ih1 =>
      intro i1 hloi1 hi1 hin H locs ls hP hD hS hl
      refine lv_iload_n hx hb dX11_act_51 rfl (lv_at hl 0 rfl) ?_
      refine lv_bipush (v := 39) hx hb dX11_act_52 (by decide) ?_
      refine lv_icmp_ge (tgt := 83) hx hb dX11_act_54 (by decide) (fun c2 => ?_) (fun c2 => ?_)
      · skip
        have hsi1 : i1 = 39 := (po_X11_act_199 i1 hloi1 hi1 c2)
        subst hsi1
        refine lv_aload_n hx hb dX11_act_83 rfl (lv_at hl 1 rfl) ?_
        refine lv_dup hx hb dX11_act_84 rfl ?_
        refine va_get (D := (dC, dI)) (ci := 11) (v := .int 0) (C := RX11) (T := TX11) (N := 79) hx hb hts inB_11 hown hE.1 hP 0 rfl rfl 62 (by decide) (hts _ k_1382) (fun _ h9 => h9) rfl dX11_act_85 ?_
        refine lv_iconst (v := 1) hx hb dX11_act_88 (by decide) ?_
        refine lv_iadd hx hb dX11_act_89 ?_
        refine tI (y := 1) (by decide) ?_
        refine va_put (D := (dC, dI)) (ci := 11) (v := .int 1) (ty := tyX11 62) (C := RX11) (T := TX11) (N := 79) hx hb hts inB_11 tyX11 tyX11_ok nmX11 hown hE.1 hP hD hS 0 rfl rfl 62 (by decide) (hts _ k_1382) (fun _ h9 => h9) rfl (tyX11_ok 62 (by decide)) rfl rfl (Nat.le_of_ble_eq_true rfl) dX11_act_90 (fun H locs hP hD hS => ?_)
        have hP : va_P (dC, dI) vwCl [(h0, .inr (11, mFs r (upd mv0 62 1))), ((r 59), .inl (cy 1, 39, .inl zF)), ((r 60), .inl (cy 1, 39, .inl zF)), ((r 61), .inl (cy 1, 1560, .inl zF))] H := hP
        have hD : va_D A [(h0, .inr (11, mFs r (upd mv0 62 1))), ((r 59), .inl (cy 1, 39, .inl zF)), ((r 60), .inl (cy 1, 39, .inl zF)), ((r 61), .inl (cy 1, 1560, .inl zF))] := hD
        refine lv_aload_n hx hb dX11_act_93 rfl (lv_at hl 1 rfl) ?_
        refine lv_iconst (v := 0) hx hb dX11_act_94 (by decide) ?_
        refine va_put (D := (dC, dI)) (ci := 11) (v := .int 0) (ty := tyX11 63) (C := RX11) (T := TX11) (N := 79) hx hb hts inB_11 tyX11 tyX11_ok nmX11 hown hE.1 hP hD hS 0 rfl rfl 63 (by decide) (hts _ k_1383) (fun _ h9 => h9) rfl (tyX11_ok 63 (by decide)) rfl rfl (Nat.le_of_ble_eq_true rfl) dX11_act_95 (fun H locs hP hD hS => ?_)
        have hP : va_P (dC, dI) vwCl [(h0, .inr (11, mFs r (upd mv0 62 1))), ((r 59), .inl (cy 1, 39, .inl zF)), ((r 60), .inl (cy 1, 39, .inl zF)), ((r 61), .inl (cy 1, 1560, .inl zF))] H := hP
        have hD : va_D A [(h0, .inr (11, mFs r (upd mv0 62 1))), ((r 59), .inl (cy 1, 39, .inl zF)), ((r 60), .inl (cy 1, 39, .inl zF)), ((r 61), .inl (cy 1, 1560, .inl zF))] := hD
        refine lv_aload_n hx hb dX11_act_98 rfl (lv_at hl 1 rfl) ?_
        refine caVv (n := 0) (wr := [((r 61), .inl (cy 1, 1560, .inl zF))]) (rest := []) hx hb hml hown hts hE hP hD hS hA (cnX11_fill_2 l dC dI cy h0 r) k_1739 k_1741 k_71 k_114 k_1742 (by decide +kernel) ⟨Nat.le_of_ble_eq_true rfl, Nat.le_of_ble_eq_true rfl⟩ [0, 1, 2] [3] rfl rfl rfl (by decide) (by decide) (by decide) 0 11 rfl rfl rfl hl.1 rfl (Nat.le_of_ble_eq_true rfl) dX11_act_99 ⟨Nat.le_of_ble_eq_true rfl, Nat.le_of_ble_eq_true rfl⟩ (fun u H locs hw hP hD hS => ?_)
        have hP : va_P (dC, dI) vwCl [((r 61), .inl (cy 1, 1560, .inl zF)), (h0, .inr (11, mFs r (upd mv0 62 1))), ((r 59), .inl (cy 1, 39, .inl zF)), ((r 60), .inl (cy 1, 39, .inl zF))] H := hP
        have hD : va_D A [((r 61), .inl (cy 1, 1560, .inl zF)), (h0, .inr (11, mFs r (upd mv0 62 1))), ((r 59), .inl (cy 1, 39, .inl zF)), ((r 60), .inl (cy 1, 39, .inl zF))] := hD
        exact ret () _ _ _ _ _ _ trivial (hP.sub [1, 2, 3, 0] rfl) (hD.sub [1, 2, 3, 0] (by decide) rfl) hS dX11_act_102 (Nat.le_of_ble_eq_true rfl) (Nat.le_of_ble_eq_true rfl)
      · skip
        have hsi1 : i1 < 39 := (po_X11_act_202 i1 hloi1 hi1 c2)
        refine lv_aload_n hx hb dX11_act_57 rfl (lv_at hl 1 rfl) ?_
        refine va_get (D := (dC, dI)) (ci := 11) (v := .ref (r 61)) (C := RX11) (T := TX11) (N := 79) hx hb hts inB_11 hown hE.1 hP 0 rfl rfl 61 (by decide) (hts _ k_1381) (fun _ h9 => h9) rfl dX11_act_58 ?_
        refine lv_bipush (v := 39) hx hb dX11_act_61 (by decide) ?_
        refine lv_aload_n hx hb dX11_act_63 rfl (lv_at hl 1 rfl) ?_
        refine va_get (D := (dC, dI)) (ci := 11) (v := .int 0) (C := RX11) (T := TX11) (N := 79) hx hb hts inB_11 hown hE.1 hP 0 rfl rfl 62 (by decide) (hts _ k_1382) (fun _ h9 => h9) rfl dX11_act_64 ?_
        refine lv_imul hx hb dX11_act_67 ?_
        refine tI (y := 0) (by decide) ?_
        refine lv_iload_n hx hb dX11_act_68 rfl (lv_at hl 0 rfl) ?_
        refine lv_iadd hx hb dX11_act_69 ?_
        refine tI (y := (nI ((0) + (i1)))) (nI_add (0) (i1)) ?_
        refine lv_aload_n hx hb dX11_act_70 rfl (lv_at hl 1 rfl) ?_
        refine va_get (D := (dC, dI)) (ci := 11) (v := .ref (r 59)) (C := RX11) (T := TX11) (N := 79) hx hb hts inB_11 hown hE.1 hP 0 rfl rfl 59 (by decide) (hts _ k_1379) (fun _ h9 => h9) rfl dX11_act_71 ?_
        refine lv_iload_n hx hb dX11_act_74 rfl (lv_at hl 0 rfl) ?_
        refine ldI (k := (i1)) (v := 0) hx hb hE hP 1 rfl (vp_in_nI (by omega) (by decide)) (nI_clamp (by omega)) rfl dX11_act_75 ?_
        refine stI (k := ((0) + (i1))) hx hb hE hP hD hS 3 rfl (vp_in_nI (by omega) (by decide)) (nI_clamp (by omega)) dX11_act_76 (fun H locs hP hD hS => ?_)
        have eU : upd zF ((0) + (i1)) 0 = zF := upd_same rfl
        rw [eU] at hP hD
        have hP : va_P (dC, dI) vwCl [(h0, .inr (11, mFs r mv0)), ((r 59), .inl (cy 1, 39, .inl zF)), ((r 60), .inl (cy 1, 39, .inl zF)), ((r 61), .inl (cy 1, 1560, .inl zF))] H := hP
        have hD : va_D A [(h0, .inr (11, mFs r mv0)), ((r 59), .inl (cy 1, 39, .inl zF)), ((r 60), .inl (cy 1, 39, .inl zF)), ((r 61), .inl (cy 1, 1560, .inl zF))] := hD
        refine lv_iinc (v := (nI (i1 + 1))) (lv' := [(1, .int (nI (i1 + 1))), (0, .ref h0)]) hx hb dX11_act_77 hl (k := 0) rfl (nI_1 (i1)) (by decide) rfl (fun ls hl => ?_)
        refine lv_goto (tgt := 51) hx hb dX11_act_80 (by decide) ?_
        exact ih1 (i1 + 1) (by omega) (by omega) (by omega) _ _ _ (hP.sub [0, 1, 2, 3] rfl) (hD.sub [0, 1, 2, 3] (by decide) rfl) hS (lv_sub hl [0, 1] rfl)
  exact lp1 40 0 (by decide) (by decide) (by decide) _ _ _ (hP.sub [0, 1, 2, 3] rfl) (hD.sub [0, 1, 2, 3] (by decide) rfl) hS (lv_sub hl [0, 1] rfl)
