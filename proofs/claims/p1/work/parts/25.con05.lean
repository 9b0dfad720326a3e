set_option maxHeartbeats 4000000 in
set_option maxRecDepth 100000 in
theorem cnX11_drawRain_1 (l : Launch) (dC : Nat → ClassId) (dI : Nat → Nat → Nat) (cy : Nat → ClassId) (h0 : Nat) (r : Nat → Nat) : ctI l (dC, dI) cy yX11_drawRain cX11_drawRain 1 .boolean 1 60 0 0 Unit [.ref h0] [(h0, .inr (11, mFs r (upd mv0 62 1))), ((r 60), .inl (cy 1, 39, .inl zF))] (fun r _ => r = 0) (fun u => [(h0, .inr (11, mFs r (upd mv0 62 1))), ((r 60), .inl (cy 1, 39, .inl (upd zF 38 71)))]) := by
  refine ctI_of (by decide) (Nat.le_of_ble_eq_true rfl) (fun p e s m below meth c A ls Q hx hb hml hts hown hE hP hD hA hl ret => ?_)
  have hown : s.vm.findClass RX11 = some m.cls := hown
  have hS : va_S A s.heap s.heap [] := va_S.rf
  have hl : lv_has ls 1 [(0, .ref h0)] := hl
  refine lv_aload_n hx hb dX11_drawRain_0 rfl (lv_at hl 0 rfl) ?_
  refine va_get (D := (dC, dI)) (ci := 11) (v := .ref (r 60)) (C := RX11) (T := TX11) (N := 79) hx hb hts inB_11 hown hE.1 hP 0 rfl rfl 60 (by decide) (hts _ k_1380) (fun _ h9 => h9) rfl dX11_drawRain_1 ?_
  refine lv_bipush (v := 38) hx hb dX11_drawRain_4 (by decide) ?_
  refine lv_aload_n hx hb dX11_drawRain_6 rfl (lv_at hl 0 rfl) ?_
  refine va_get (D := (dC, dI)) (ci := 11) (v := .ref (r 60)) (C := RX11) (T := TX11) (N := 79) hx hb hts inB_11 hown hE.1 hP 0 rfl rfl 60 (by decide) (hts _ k_1380) (fun _ h9 => h9) rfl dX11_drawRain_7 ?_
  refine lv_bipush (v := 38) hx hb dX11_drawRain_10 (by decide) ?_
  refine ldI (k := 38) (v := 0) hx hb hE hP 1 rfl (vp_in_nI (n := 38) (by decide) (by decide)) (nI_clamp (n := 38) (by decide)) rfl dX11_drawRain_12 ?_
  refine lv_sipush (v := 137) hx hb dX11_drawRain_13 (by decide) ?_
  refine lv_imul hx hb dX11_drawRain_16 ?_
  refine tI (y := 0) (by decide) ?_
  refine lv_bipush (v := 71) hx hb dX11_drawRain_17 (by decide) ?_
  refine lv_iadd hx hb dX11_drawRain_19 ?_
  refine tI (y := 71) (by decide) ?_
  refine lv_sipush (v := 1000) hx hb dX11_drawRain_20 (by decide) ?_
  refine lv_irem hx hb dX11_drawRain_23 (by decide) ?_
  refine tI (y := 71) (by decide) ?_
  refine stI (k := 38) hx hb hE hP hD hS 1 rfl (vp_in_nI (n := 38) (by decide) (by decide)) (nI_clamp (n := 38) (by decide)) dX11_drawRain_24 (fun H locs hP hD hS => ?_)
  have hP : va_P (dC, dI) vwCl [(h0, .inr (11, mFs r (upd mv0 62 1))), ((r 60), .inl (cy 1, 39, .inl (upd zF 38 71)))] H := hP
  have hD : va_D A [(h0, .inr (11, mFs r (upd mv0 62 1))), ((r 60), .inl (cy 1, 39, .inl (upd zF 38 71)))] := hD
  refine lv_aload_n hx hb dX11_drawRain_25 rfl (lv_at hl 0 rfl) ?_
  refine va_get (D := (dC, dI)) (ci := 11) (v := .ref (r 60)) (C := RX11) (T := TX11) (N := 79) hx hb hts inB_11 hown hE.1 hP 0 rfl rfl 60 (by decide) (hts _ k_1380) (fun _ h9 => h9) rfl dX11_drawRain_26 ?_
  refine lv_bipush (v := 38) hx hb dX11_drawRain_29 (by decide) ?_
  refine ldI (k := 38) (v := 71) hx hb hE hP 1 rfl (vp_in_nI (n := 38) (by decide) (by decide)) (nI_clamp (n := 38) (by decide)) (by decide) dX11_drawRain_31 ?_
  refine lv_bipush (v := 100) hx hb dX11_drawRain_32 (by decide) ?_
  refine lv_irem hx hb dX11_drawRain_34 (by decide) ?_
  refine tI (y := 71) (by decide) ?_
  refine lv_aload_n hx hb dX11_drawRain_35 rfl (lv_at hl 0 rfl) ?_
  refine va_get (D := (dC, dI)) (ci := 11) (v := .int 0) (C := RX11) (T := TX11) (N := 79) hx hb hts inB_11 hown hE.1 hP 0 rfl rfl 53 (by decide) (hts _ k_1373) (fun _ h9 => h9) rfl dX11_drawRain_36 ?_
  refine lv_icmp_ge (tgt := 46) hx hb dX11_drawRain_39 (by decide) (fun _ => ?_) (fun c0 => absurd (by decide) c0)
  refine lv_iconst (v := 0) hx hb dX11_drawRain_46 (by decide) ?_
  exact ret 0 () _ _ _ _ _ _ rfl rfl (hP.sub [0, 1] rfl) (hD.sub [0, 1] (by decide) rfl) hS dX11_drawRain_47 (Nat.le_of_ble_eq_true rfl) (Nat.le_of_ble_eq_true rfl)
set_option maxHeartbeats 4000000 in
set_option maxRecDepth 100000 in
theorem cnX11_wearers_1 (l : Launch) (dC : Nat → ClassId) (dI : Nat → Nat → Nat) (cy : Nat → ClassId) (h0 : Nat) (r : Nat → Nat) : ctI l (dC, dI) cy yX11_wearers cX11_wearers 3 .int 1 60 0 0 Unit [.ref h0] [(h0, .inr (11, mFs r (upd mv0 62 1)))] (fun r _ => r = 0) (fun u => [(h0, .inr (11, mFs r (upd mv0 62 1)))]) := by
  refine ctI_of (by decide) (Nat.le_of_ble_eq_true rfl) (fun p e s m below meth c A ls Q hx hb hml hts hown hE hP hD hA hl ret => ?_)
  have hown : s.vm.findClass RX11 = some m.cls := hown
  have hS : va_S A s.heap s.heap [] := va_S.rf
  have hl : lv_has ls 3 [(0, .ref h0)] := hl
  refine lv_iconst (v := 0) hx hb dX11_wearers_0 (by decide) ?_
  refine lv_istore_n (lv' := [(1, .int 0), (0, .ref h0)]) hx hb dX11_wearers_1 rfl hl (by decide) rfl (fun ls hl => ?_)
  refine lv_iconst (v := 0) hx hb dX11_wearers_2 (by decide) ?_
  refine lv_istore_n (lv' := [(2, .int 0), (1, .int 0), (0, .ref h0)]) hx hb dX11_wearers_3 rfl hl (by decide) rfl (fun ls hl => ?_)
  refine lv_iload_n hx hb dX11_wearers_4 rfl (lv_at hl 0 rfl) ?_
  refine lv_aload_n hx hb dX11_wearers_5 rfl (lv_at hl 2 rfl) ?_
  refine va_get (D := (dC, dI)) (ci := 11) (v := .int 0) (C := RX11) (T := TX11) (N := 79) hx hb hts inB_11 hown hE.1 hP 0 rfl rfl 48 (by decide) (hts _ k_1368) (fun _ h9 => h9) rfl dX11_wearers_6 ?_
  refine lv_icmp_ge (tgt := 43) hx hb dX11_wearers_9 (by decide) (fun _ => ?_) (fun c0 => absurd (by decide) c0)
  refine lv_iload_n hx hb dX11_wearers_43 rfl (lv_at hl 1 rfl) ?_
  exact ret 0 () _ _ _ _ _ _ rfl rfl (hP.sub [0] rfl) (hD.sub [0] (by decide) rfl) hS dX11_wearers_44 (Nat.le_of_ble_eq_true rfl) (Nat.le_of_ble_eq_true rfl)
set_option maxHeartbeats 4000000 in
set_option maxRecDepth 100000 in
theorem cnX11_fittedOnes_1 (l : Launch) (dC : Nat → ClassId) (dI : Nat → Nat → Nat) (cy : Nat → ClassId) (h0 : Nat) (r : Nat → Nat) : ctI l (dC, dI) cy yX11_fittedOnes cX11_fittedOnes 3 .int 1 60 0 0 Unit [.ref h0] [(h0, .inr (11, mFs r (upd mv0 62 1)))] (fun r _ => r = 0) (fun u => [(h0, .inr (11, mFs r (upd mv0 62 1)))]) := by
  refine ctI_of (by decide) (Nat.le_of_ble_eq_true rfl) (fun p e s m below meth c A ls Q hx hb hml hts hown hE hP hD hA hl ret => ?_)
  have hown : s.vm.findClass RX11 = some m.cls := hown
  have hS : va_S A s.heap s.heap [] := va_S.rf
  have hl : lv_has ls 3 [(0, .ref h0)] := hl
  refine lv_iconst (v := 0) hx hb dX11_fittedOnes_0 (by decide) ?_
  refine lv_istore_n (lv' := [(1, .int 0), (0, .ref h0)]) hx hb dX11_fittedOnes_1 rfl hl (by decide) rfl (fun ls hl => ?_)
  refine lv_iconst (v := 0) hx hb dX11_fittedOnes_2 (by decide) ?_
  refine lv_istore_n (lv' := [(2, .int 0), (1, .int 0), (0, .ref h0)]) hx hb dX11_fittedOnes_3 rfl hl (by decide) rfl (fun ls hl => ?_)
  refine lv_iload_n hx hb dX11_fittedOnes_4 rfl (lv_at hl 0 rfl) ?_
  refine lv_aload_n hx hb dX11_fittedOnes_5 rfl (lv_at hl 2 rfl) ?_
  refine va_get (D := (dC, dI)) (ci := 11) (v := .int 0) (C := RX11) (T := TX11) (N := 79) hx hb hts inB_11 hown hE.1 hP 0 rfl rfl 48 (by decide) (hts _ k_1368) (fun _ h9 => h9) rfl dX11_fittedOnes_6 ?_
  refine lv_icmp_ge (tgt := 31) hx hb dX11_fittedOnes_9 (by decide) (fun _ => ?_) (fun c0 => absurd (by decide) c0)
  refine lv_iload_n hx hb dX11_fittedOnes_31 rfl (lv_at hl 1 rfl) ?_
  exact ret 0 () _ _ _ _ _ _ rfl rfl (hP.sub [0] rfl) (hD.sub [0] (by decide) rfl) hS dX11_fittedOnes_32 (Nat.le_of_ble_eq_true rfl) (Nat.le_of_ble_eq_true rfl)
set_option maxHeartbeats 4000000 in
set_option maxRecDepth 100000 in
theorem cnX11_goDay_1 (l : Launch) (dC : Nat → ClassId) (dI : Nat → Nat → Nat) (cy : Nat → ClassId) (h0 : Nat) (r : Nat → Nat) : ctI l (dC, dI) cy yX11_goDay cX11_goDay 4 .int 2 82 0 0 Unit [.ref h0, .int 0] [(h0, .inr (11, mFs r (upd mv0 62 1))), ((r 60), .inl (cy 1, 39, .inl (upd zF 38 71)))] (fun r _ => r = 0) (fun u => [(h0, .inr (11, mFs r (upd mv0 62 1))), ((r 60), .inl (cy 1, 39, .inl (upd (upd zF 38 71) 37 1)))]) := by
  refine ctI_of (by decide) (Nat.le_of_ble_eq_true rfl) (fun p e s m below meth c A ls Q hx hb hml hts hown hE hP hD hA hl ret => ?_)
  have hown : s.vm.findClass RX11 = some m.cls := hown
  have hS : va_S A s.heap s.heap [] := va_S.rf
  have hl : lv_has ls 4 [(0, .ref h0), (1, .int 0)] := hl
  refine lv_iconst (v := 0) hx hb dX11_goDay_0 (by decide) ?_
  refine lv_istore_n (lv' := [(2, .int 0), (0, .ref h0), (1, .int 0)]) hx hb dX11_goDay_1 rfl hl (by decide) rfl (fun ls hl => ?_)
  refine lv_iload_n hx hb dX11_goDay_2 rfl (lv_at hl 0 rfl) ?_
  refine lv_aload_n hx hb dX11_goDay_3 rfl (lv_at hl 1 rfl) ?_
  refine va_get (D := (dC, dI)) (ci := 11) (v := .int 0) (C := RX11) (T := TX11) (N := 79) hx hb hts inB_11 hown hE.1 hP 0 rfl rfl 48 (by decide) (hts _ k_1368) (fun _ h9 => h9) rfl dX11_goDay_4 ?_
  refine lv_icmp_ge (tgt := 40) hx hb dX11_goDay_7 (by decide) (fun _ => ?_) (fun c0 => absurd (by decide) c0)
  refine lv_iconst (v := 0) hx hb dX11_goDay_40 (by decide) ?_
  refine lv_istore_n (lv' := [(2, .int 0), (0, .ref h0), (1, .int 0)]) hx hb dX11_goDay_41 rfl hl (by decide) rfl (fun ls hl => ?_)
  refine lv_iload_n hx hb dX11_goDay_42 rfl (lv_at hl 0 rfl) ?_
  refine lv_aload_n hx hb dX11_goDay_43 rfl (lv_at hl 1 rfl) ?_
  refine va_get (D := (dC, dI)) (ci := 11) (v := .int 0) (C := RX11) (T := TX11) (N := 79) hx hb hts inB_11 hown hE.1 hP 0 rfl rfl 49 (by decide) (hts _ k_1369) (fun _ h9 => h9) rfl dX11_goDay_44 ?_
  refine lv_icmp_ge (tgt := 146) hx hb dX11_goDay_47 (by decide) (fun _ => ?_) (fun c0 => absurd (by decide) c0)
  refine lv_aload_n hx hb dX11_goDay_146 rfl (lv_at hl 1 rfl) ?_
  refine va_get (D := (dC, dI)) (ci := 11) (v := .ref (r 60)) (C := RX11) (T := TX11) (N := 79) hx hb hts inB_11 hown hE.1 hP 0 rfl rfl 60 (by decide) (hts _ k_1380) (fun _ h9 => h9) rfl dX11_goDay_147 ?_
  refine lv_bipush (v := 37) hx hb dX11_goDay_150 (by decide) ?_
  refine lv_dup2_11 hx hb dX11_goDay_152 rfl rfl ?_
  refine ldI (k := 37) (v := 0) hx hb hE hP 1 rfl (vp_in_nI (n := 37) (by decide) (by decide)) (nI_clamp (n := 37) (by decide)) (by decide) dX11_goDay_153 ?_
  refine lv_iconst (v := 1) hx hb dX11_goDay_154 (by decide) ?_
  refine lv_iadd hx hb dX11_goDay_155 ?_
  refine tI (y := 1) (by decide) ?_
  refine stI (k := 37) hx hb hE hP hD hS 1 rfl (vp_in_nI (n := 37) (by decide) (by decide)) (nI_clamp (n := 37) (by decide)) dX11_goDay_156 (fun H locs hP hD hS => ?_)
  have hP : va_P (dC, dI) vwCl [(h0, .inr (11, mFs r (upd mv0 62 1))), ((r 60), .inl (cy 1, 39, .inl (upd (upd zF 38 71) 37 1)))] H := hP
  have hD : va_D A [(h0, .inr (11, mFs r (upd mv0 62 1))), ((r 60), .inl (cy 1, 39, .inl (upd (upd zF 38 71) 37 1)))] := hD
  refine lv_aload_n hx hb dX11_goDay_157 rfl (lv_at hl 1 rfl) ?_
  refine caVi (n := 0) (wr := [((r 60), .inl (cy 1, 39, .inl (upd (upd zF 38 71) 37 1)))]) (rest := []) hx hb hml hown hts hE hP hD hS hA (cnX11_wearers_1 l dC dI cy h0 r) k_1805 k_1807 k_80 k_114 k_1808 (by decide +kernel) ⟨Nat.le_of_ble_eq_true rfl, Nat.le_of_ble_eq_true rfl⟩ [0] [1] rfl rfl rfl (by decide) (by decide) (by decide) 0 11 rfl rfl rfl hl.1 rfl (Nat.le_of_ble_eq_true rfl) dX11_goDay_158 ⟨Nat.le_of_ble_eq_true rfl, Nat.le_of_ble_eq_true rfl⟩ (fun rr u H locs hw hP hD hS => ?_)
  have hP : va_P (dC, dI) vwCl [((r 60), .inl (cy 1, 39, .inl (upd (upd zF 38 71) 37 1))), (h0, .inr (11, mFs r (upd mv0 62 1)))] H := hP
  have hD : va_D A [((r 60), .inl (cy 1, 39, .inl (upd (upd zF 38 71) 37 1))), (h0, .inr (11, mFs r (upd mv0 62 1)))] := hD
  refine tI (y := 0) hw ?_
  refine lv_aload_n hx hb dX11_goDay_161 rfl (lv_at hl 1 rfl) ?_
  refine caVi (n := 0) (wr := [((r 60), .inl (cy 1, 39, .inl (upd (upd zF 38 71) 37 1)))]) (rest := [.int 0]) hx hb hml hown hts hE hP hD hS hA (cnX11_fittedOnes_1 l dC dI cy h0 r) k_1809 k_1811 k_81 k_114 k_1812 (by decide +kernel) ⟨Nat.le_of_ble_eq_true rfl, Nat.le_of_ble_eq_true rfl⟩ [1] [0] rfl rfl rfl (by decide) (by decide) (by decide) 0 11 rfl rfl rfl hl.1 rfl (Nat.le_of_ble_eq_true rfl) dX11_goDay_162 ⟨Nat.le_of_ble_eq_true rfl, Nat.le_of_ble_eq_true rfl⟩ (fun rr u H locs hw hP hD hS => ?_)
  have hP : va_P (dC, dI) vwCl [((r 60), .inl (cy 1, 39, .inl (upd (upd zF 38 71) 37 1))), (h0, .inr (11, mFs r (upd mv0 62 1)))] H := hP
  have hD : va_D A [((r 60), .inl (cy 1, 39, .inl (upd (upd zF 38 71) 37 1))), (h0, .inr (11, mFs r (upd mv0 62 1)))] := hD
  refine tI (y := 0) hw ?_
  refine lv_iconst (v := (-1)) hx hb dX11_goDay_165 (by decide) ?_
  refine lv_ixor hx hb dX11_goDay_166 ?_
  refine tI (y := (-1)) (by decide) ?_
  refine lv_iand hx hb dX11_goDay_167 ?_
  refine tI (y := 0) (by decide) ?_
  refine lv_istore_n (lv' := [(2, .int 0), (0, .ref h0), (1, .int 0)]) hx hb dX11_goDay_168 rfl hl (by decide) rfl (fun ls hl => ?_)
  refine lv_iconst (v := 0) hx hb dX11_goDay_169 (by decide) ?_
  refine lv_istore_n (lv' := [(3, .int 0), (2, .int 0), (0, .ref h0), (1, .int 0)]) hx hb dX11_goDay_170 rfl hl (by decide) rfl (fun ls hl => ?_)
  refine lv_iload_n hx hb dX11_goDay_171 rfl (lv_at hl 0 rfl) ?_
  refine lv_aload_n hx hb dX11_goDay_172 rfl (lv_at hl 2 rfl) ?_
  refine va_get (D := (dC, dI)) (ci := 11) (v := .int 0) (C := RX11) (T := TX11) (N := 79) hx hb hts inB_11 hown hE.1 hP 1 rfl rfl 48 (by decide) (hts _ k_1368) (fun _ h9 => h9) rfl dX11_goDay_173 ?_
  refine lv_icmp_ge (tgt := 204) hx hb dX11_goDay_176 (by decide) (fun _ => ?_) (fun c0 => absurd (by decide) c0)
  refine lv_iload_n hx hb dX11_goDay_204 rfl (lv_at hl 1 rfl) ?_
  exact ret 0 () _ _ _ _ _ _ rfl rfl (hP.sub [1, 0] rfl) (hD.sub [1, 0] (by decide) rfl) hS dX11_goDay_205 (Nat.le_of_ble_eq_true rfl) (Nat.le_of_ble_eq_true rfl)
theorem po_X11_keepAir_207 (i1 : Nat) (gi1 : 0 ≤ i1) (hi1 : i1 ≤ 39) (c2 : 39 ≤ (nI (i1))) : i1 = 39 := by have ti_0 : (nI (i1)).toInt = (((i1 : Nat)) : Int) := nI_toInt (by omega); simp only [fa_lt, fa_le, fa_eq, tl_39, ti_0] at *; omega
theorem po_X11_keepAir_208 (i1 : Nat) (gi1 : 0 ≤ i1) (hi1 : i1 ≤ 39) (c2 : ¬ 39 ≤ (nI (i1))) : i1 < 39 := by have ti_0 : (nI (i1)).toInt = (((i1 : Nat)) : Int) := nI_toInt (by omega); simp only [fa_lt, fa_le, fa_eq, tl_39, ti_0] at *; omega
set_option maxHeartbeats 4000000 in
set_option maxRecDepth 100000 in
theorem cnX11_keepAir_2 (l : Launch) (dC : Nat → ClassId) (dI : Nat → Nat → Nat) (cy : Nat → ClassId) (r : Nat → Nat) (h0 : Nat) : ctV l (dC, dI) cy yX11_keepAir cX11_keepAir 2 1 60 0 0 Unit [.ref h0] [((r 60), .inl (cy 1, 39, .inl (upd (upd zF 38 71) 37 1))), ((r 59), .inl (cy 1, 39, .inl zF)), (h0, .inr (11, mFs r (upd mv0 62 1)))] (fun _ => True) (fun u => [((r 60), .inl (cy 1, 39, .inl (upd (upd zF 38 71) 37 1))), ((r 59), .inl (cy 1, 39, .inl (cpF (upd (upd zF 38 71) 37 1) zF 39))), (h0, .inr (11, mFs r (upd mv0 62 1)))]) := by
  refine ctV_of (by decide) (Nat.le_of_ble_eq_true rfl) (fun p e s m below meth c A ls Q hx hb hml hts hown hnm hE hP hD hA hl ret => ?_)
  have hown : s.vm.findClass RX11 = some m.cls := hown
  have hS : va_S A s.heap s.heap [] := va_S.rf
  have hl : lv_has ls 2 [(0, .ref h0)] := hl
  refine lv_iconst (v := 0) hx hb dX11_keepAir_0 (by decide) ?_
  refine lv_istore_n (lv' := [(1, .int 0), (0, .ref h0)]) hx hb dX11_keepAir_1 rfl hl (by decide) rfl (fun ls hl => ?_)
  have lp1 : ∀ (n i1 : Nat), 0 ≤ i1 → i1 ≤ 39 → 39 < i1 + n → ∀ (H : Heap) (locs : List Loc) (ls : Array Slot), va_P (dC, dI) vwCl [((r 60), .inl (cy 1, 39, .inl (upd (upd zF 38 71) 37 1))), ((r 59), .inl (cy 1, 39, .inl (cpF (upd (upd zF 38 71) 37 1) zF i1))), (h0, .inr (11, mFs r (upd mv0 62 1)))] H → va_D A [((r 60), .inl (cy 1, 39, .inl (upd (upd zF 38 71) 37 1))), ((r 59), .inl (cy 1, 39, .inl (cpF (upd (upd zF 38 71) 37 1) zF i1))), (h0, .inr (11, mFs r (upd mv0 62 1)))] → va_S A s.heap H locs → lv_has ls 2 [(1, .int (nI (i1))), (0, .ref h0)] → W p l e { frames := 1, cells := 0, slots := 0, locals := 60 } s m ([.ref h0] : List Value).toArray below meth c H locs 0 0 Q (F0 m 2 ls []) := by
    intro n
    induction n with
    | zero => intro i1 h0 h1 h2; exact absurd h2 (by omega)
    | succ n ih1 =>
      intro i1 hloi1 hi1 hin H locs ls hP hD hS hl
      refine lv_iload_n hx hb dX11_keepAir_2 rfl (lv_at hl 0 rfl) ?_
      refine lv_bipush (v := 39) hx hb dX11_keepAir_3 (by decide) ?_
      refine lv_icmp_ge (tgt := 26) hx hb dX11_keepAir_5 (by decide) (fun c2 => ?_) (fun c2 => ?_)
      · skip
        have hsi1 : i1 = 39 := (po_X11_keepAir_207 i1 hloi1 hi1 c2)
        subst hsi1
        exact ret () _ _ _ _ _ _ trivial (hP.sub [0, 1, 2] rfl) (hD.sub [0, 1, 2] (by decide) rfl) hS dX11_keepAir_26 (Nat.le_of_ble_eq_true rfl) (Nat.le_of_ble_eq_true rfl)
      · skip
        have hsi1 : i1 < 39 := (po_X11_keepAir_208 i1 hloi1 hi1 c2)
        refine lv_aload_n hx hb dX11_keepAir_8 rfl (lv_at hl 1 rfl) ?_
        refine va_get (D := (dC, dI)) (ci := 11) (v := .ref (r 59)) (C := RX11) (T := TX11) (N := 79) hx hb hts inB_11 hown hE.1 hP 2 rfl rfl 59 (by decide) (hts _ k_1379) (fun _ h9 => h9) rfl dX11_keepAir_9 ?_
        refine lv_iload_n hx hb dX11_keepAir_12 rfl (lv_at hl 0 rfl) ?_
        refine lv_aload_n hx hb dX11_keepAir_13 rfl (lv_at hl 1 rfl) ?_
        refine va_get (D := (dC, dI)) (ci := 11) (v := .ref (r 60)) (C := RX11) (T := TX11) (N := 79) hx hb hts inB_11 hown hE.1 hP 2 rfl rfl 60 (by decide) (hts _ k_1380) (fun _ h9 => h9) rfl dX11_keepAir_14 ?_
        refine lv_iload_n hx hb dX11_keepAir_17 rfl (lv_at hl 0 rfl) ?_
        refine ldI (k := (i1)) (v := ((upd (upd zF 38 71) 37 1) (i1))) hx hb hE hP 0 rfl (vp_in_nI (by omega) (by decide)) (nI_clamp (by omega)) rfl dX11_keepAir_18 ?_
        refine lv_topi (fun t3 et3 => ?_)
        refine stI (k := (i1)) hx hb hE hP hD hS 1 rfl (vp_in_nI (by omega) (by decide)) (nI_clamp (by omega)) dX11_keepAir_19 (fun H locs hP hD hS => ?_)
        have eU : upd (cpF (upd (upd zF 38 71) 37 1) zF i1) (i1) t3 = (cpF (upd (upd zF 38 71) 37 1) zF (i1 + 1)) := (by rw [et3]; exact cpF_s (upd (upd zF 38 71) 37 1) zF i1)
        rw [eU] at hP hD
        have hP : va_P (dC, dI) vwCl [((r 60), .inl (cy 1, 39, .inl (upd (upd zF 38 71) 37 1))), ((r 59), .inl (cy 1, 39, .inl (cpF (upd (upd zF 38 71) 37 1) zF (i1 + 1)))), (h0, .inr (11, mFs r (upd mv0 62 1)))] H := hP
        have hD : va_D A [((r 60), .inl (cy 1, 39, .inl (upd (upd zF 38 71) 37 1))), ((r 59), .inl (cy 1, 39, .inl (cpF (upd (upd zF 38 71) 37 1) zF (i1 + 1)))), (h0, .inr (11, mFs r (upd mv0 62 1)))] := hD
        refine lv_iinc (v := (nI (i1 + 1))) (lv' := [(1, .int (nI (i1 + 1))), (0, .ref h0)]) hx hb dX11_keepAir_20 hl (k := 0) rfl (nI_1 (i1)) (by decide) rfl (fun ls hl => ?_)
        refine lv_goto (tgt := 2) hx hb dX11_keepAir_23 (by decide) ?_
        exact ih1 (i1 + 1) (by omega) (by omega) (by omega) _ _ _ (hP.sub [0, 1, 2] rfl) (hD.sub [0, 1, 2] (by decide) rfl) hS (lv_sub hl [0, 1] rfl)
  have hP := hP
  have hD := hD
  have eI : ([((r 60), .inl (cy 1, 39, .inl (upd (upd zF 38 71) 37 1))), ((r 59), .inl (cy 1, 39, .inl zF)), (h0, .inr (11, mFs r (upd mv0 62 1)))] : va_W) = [((r 60), .inl (cy 1, 39, .inl (upd (upd zF 38 71) 37 1))), ((r 59), .inl (cy 1, 39, .inl (cpF (upd (upd zF 38 71) 37 1) zF 0))), (h0, .inr (11, mFs r (upd mv0 62 1)))] := by rw [cpF_0]
  rw [eI] at hP hD
  exact lp1 40 0 (by decide) (by decide) (by decide) _ _ _ (hP.sub [0, 1, 2] rfl) (hD.sub [0, 1, 2] (by decide) rfl) hS (lv_sub hl [0, 1] rfl)
theorem pt_X11_day_221 : (0 : Int32) = F_day  := by
  unfold F_day
  (repeat' split)
  all_goals first | rfl | assumption | (exfalso; simp only [fa_lt, fa_le, fa_eq, tl_0] at *; omega) | (simp only [fa_lt, fa_le, fa_eq, tl_0] at *; omega)
set_option maxHeartbeats 4000000 in
set_option maxRecDepth 100000 in
theorem cnX11_day_1 (l : Launch) (dC : Nat → ClassId) (dI : Nat → Nat → Nat) (cy : Nat → ClassId) (h0 : Nat) (r : Nat → Nat) : ctI l (dC, dI) cy yX11_day cX11_day 3 .int 3 105 0 0 Unit [.ref h0] [(h0, .inr (11, mFs r mv0)), ((r 59), .inl (cy 1, 39, .inl zF)), ((r 60), .inl (cy 1, 39, .inl zF)), ((r 61), .inl (cy 1, 1560, .inl zF))] (fun r _ => r = F_day ) (fun u => []) := by
  refine ctI_of (by decide) (Nat.le_of_ble_eq_true rfl) (fun p e s m below meth c A ls Q hx hb hml hts hown hE hP hD hA hl ret => ?_)
  have hown : s.vm.findClass RX11 = some m.cls := hown
  have hS : va_S A s.heap s.heap [] := va_S.rf
  have hl : lv_has ls 3 [(0, .ref h0)] := hl
  refine lv_aload_n hx hb dX11_day_0 rfl (lv_at hl 0 rfl) ?_
  refine va_get (D := (dC, dI)) (ci := 11) (v := .ref (r 59)) (C := RX11) (T := TX11) (N := 79) hx hb hts inB_11 hown hE.1 hP 0 rfl rfl 59 (by decide) (hts _ k_1379) (fun _ h9 => h9) rfl dX11_day_1 ?_
  refine lv_bipush (v := 37) hx hb dX11_day_4 (by decide) ?_
  refine ldI (k := 37) (v := 0) hx hb hE hP 1 rfl (vp_in_nI (n := 37) (by decide) (by decide)) (nI_clamp (n := 37) (by decide)) rfl dX11_day_6 ?_
  refine lv_sipush (v := 999) hx hb dX11_day_7 (by decide) ?_
  refine lv_icmp_ne (tgt := 15) hx hb dX11_day_10 (by decide) (fun _ => ?_) (fun c0 => absurd c0 (by decide))
  refine lv_aload_n hx hb dX11_day_15 rfl (lv_at hl 0 rfl) ?_
  refine caVv (n := 0) (wr := []) (rest := []) hx hb hml hown hts hE hP hD hS hA (cnX11_act_1 l dC dI cy h0 r) k_1787 k_1789 k_77 k_114 k_1790 (by decide +kernel) ⟨Nat.le_of_ble_eq_true rfl, Nat.le_of_ble_eq_true rfl⟩ [0, 1, 2, 3] [] rfl rfl rfl (by decide) (by decide) (by decide) 0 11 rfl rfl rfl hl.1 rfl (Nat.le_of_ble_eq_true rfl) dX11_day_16 ⟨Nat.le_of_ble_eq_true rfl, Nat.le_of_ble_eq_true rfl⟩ (fun u H locs hw hP hD hS => ?_)
  have hP : va_P (dC, dI) vwCl [(h0, .inr (11, mFs r (upd mv0 62 1))), ((r 59), .inl (cy 1, 39, .inl zF)), ((r 60), .inl (cy 1, 39, .inl zF)), ((r 61), .inl (cy 1, 1560, .inl zF))] H := hP
  have hD : va_D A [(h0, .inr (11, mFs r (upd mv0 62 1))), ((r 59), .inl (cy 1, 39, .inl zF)), ((r 60), .inl (cy 1, 39, .inl zF)), ((r 61), .inl (cy 1, 1560, .inl zF))] := hD
  refine lv_aload_n hx hb dX11_day_19 rfl (lv_at hl 0 rfl) ?_
  refine caVi (n := 0) (wr := [((r 59), .inl (cy 1, 39, .inl zF)), ((r 61), .inl (cy 1, 1560, .inl zF))]) (rest := []) hx hb hml hown hts hE hP hD hS hA (cnX11_drawRain_1 l dC dI cy h0 r) k_1791 k_1793 k_78 k_114 k_1794 (by decide +kernel) ⟨Nat.le_of_ble_eq_true rfl, Nat.le_of_ble_eq_true rfl⟩ [0, 2] [1, 3] rfl rfl rfl (by decide) (by decide) (by decide) 0 11 rfl rfl rfl hl.1 rfl (Nat.le_of_ble_eq_true rfl) dX11_day_20 ⟨Nat.le_of_ble_eq_true rfl, Nat.le_of_ble_eq_true rfl⟩ (fun rr u H locs hw hP hD hS => ?_)
  have hP : va_P (dC, dI) vwCl [((r 59), .inl (cy 1, 39, .inl zF)), ((r 61), .inl (cy 1, 1560, .inl zF)), (h0, .inr (11, mFs r (upd mv0 62 1))), ((r 60), .inl (cy 1, 39, .inl (upd zF 38 71)))] H := hP
  have hD : va_D A [((r 59), .inl (cy 1, 39, .inl zF)), ((r 61), .inl (cy 1, 1560, .inl zF)), (h0, .inr (11, mFs r (upd mv0 62 1))), ((r 60), .inl (cy 1, 39, .inl (upd zF 38 71)))] := hD
  refine tI (y := 0) hw ?_
  refine lv_istore_n (lv' := [(1, .int 0), (0, .ref h0)]) hx hb dX11_day_23 rfl hl (by decide) rfl (fun ls hl => ?_)
  refine lv_aload_n hx hb dX11_day_24 rfl (lv_at hl 1 rfl) ?_
  refine lv_iload_n hx hb dX11_day_25 rfl (lv_at hl 0 rfl) ?_
  refine caVi (n := 1) (wr := [((r 59), .inl (cy 1, 39, .inl zF)), ((r 61), .inl (cy 1, 1560, .inl zF))]) (rest := []) hx hb hml hown hts hE hP hD hS hA (cnX11_goDay_1 l dC dI cy h0 r) k_1795 k_1797 k_79 k_114 k_1798 (by decide +kernel) ⟨Nat.le_of_ble_eq_true rfl, Nat.le_of_ble_eq_true rfl⟩ [2, 3] [0, 1] rfl rfl rfl (by decide) (by decide) (by decide) 0 11 rfl rfl rfl hl.1 rfl (Nat.le_of_ble_eq_true rfl) dX11_day_26 ⟨Nat.le_of_ble_eq_true rfl, Nat.le_of_ble_eq_true rfl⟩ (fun rr u H locs hw hP hD hS => ?_)
  have hP : va_P (dC, dI) vwCl [((r 59), .inl (cy 1, 39, .inl zF)), ((r 61), .inl (cy 1, 1560, .inl zF)), (h0, .inr (11, mFs r (upd mv0 62 1))), ((r 60), .inl (cy 1, 39, .inl (upd (upd zF 38 71) 37 1)))] H := hP
  have hD : va_D A [((r 59), .inl (cy 1, 39, .inl zF)), ((r 61), .inl (cy 1, 1560, .inl zF)), (h0, .inr (11, mFs r (upd mv0 62 1))), ((r 60), .inl (cy 1, 39, .inl (upd (upd zF 38 71) 37 1)))] := hD
  refine tI (y := 0) hw ?_
  refine lv_istore_n (lv' := [(2, .int 0), (1, .int 0), (0, .ref h0)]) hx hb dX11_day_29 rfl hl (by decide) rfl (fun ls hl => ?_)
  refine lv_aload_n hx hb dX11_day_30 rfl (lv_at hl 2 rfl) ?_
  refine caVv (n := 0) (wr := [((r 61), .inl (cy 1, 1560, .inl zF))]) (rest := []) hx hb hml hown hts hE hP hD hS hA (cnX11_keepAir_2 l dC dI cy r h0) k_1720 k_1722 k_69 k_114 k_1723 (by decide +kernel) ⟨Nat.le_of_ble_eq_true rfl, Nat.le_of_ble_eq_true rfl⟩ [3, 0, 2] [1] rfl rfl rfl (by decide) (by decide) (by decide) 2 11 rfl rfl rfl hl.1 rfl (Nat.le_of_ble_eq_true rfl) dX11_day_31 ⟨Nat.le_of_ble_eq_true rfl, Nat.le_of_ble_eq_true rfl⟩ (fun u H locs hw hP hD hS => ?_)
  have hP : va_P (dC, dI) vwCl [((r 61), .inl (cy 1, 1560, .inl zF)), ((r 60), .inl (cy 1, 39, .inl (upd (upd zF 38 71) 37 1))), ((r 59), .inl (cy 1, 39, .inl (cpF (upd (upd zF 38 71) 37 1) zF 39))), (h0, .inr (11, mFs r (upd mv0 62 1)))] H := hP
  have hD : va_D A [((r 61), .inl (cy 1, 1560, .inl zF)), ((r 60), .inl (cy 1, 39, .inl (upd (upd zF 38 71) 37 1))), ((r 59), .inl (cy 1, 39, .inl (cpF (upd (upd zF 38 71) 37 1) zF 39))), (h0, .inr (11, mFs r (upd mv0 62 1)))] := hD
  refine lv_iload_n hx hb dX11_day_34 rfl (lv_at hl 0 rfl) ?_
  exact ret 0 () _ _ _ _ _ _ rfl (pt_X11_day_221 ) (hP.sub [] rfl) (hD.sub [] (by decide) rfl) hS dX11_day_35 (Nat.le_of_ble_eq_true rfl) (Nat.le_of_ble_eq_true rfl)
theorem pt_X10_don_222 (p1 : Int32) (p2 : Int32) : ((-2) : Int32) = F_don p1 p2 := by
  unfold F_don
  (repeat' split)
  all_goals first | rfl | assumption | (exfalso; simp only [fa_lt, fa_le, fa_eq, tl_m2] at *; omega) | (simp only [fa_lt, fa_le, fa_eq, tl_m2] at *; omega)
set_option maxHeartbeats 4000000 in
set_option maxRecDepth 100000 in
theorem cnX10_don_1 (l : Launch) (dC : Nat → ClassId) (dI : Nat → Nat → Nat) (cy : Nat → ClassId) (h0 : Nat) (h1 : Nat) (b0 : Nat) (b1 : Nat) (b2 : Nat) (b3 : Nat) (b4 : Nat) (b5 : Nat) (b6 : Nat) (b7 : Nat) (b8 : Nat) (b9 : Nat) (b10 : Nat) (p1 : Int32) (p2 : Int32) : ctI l (dC, dI) cy yX10_don cX10_don 4 .int 2 81 0 0 Unit [.ref h0, .int p1, .int p2] [(h0, .inr (10, [.ref b0, .ref b1, .ref h1, .ref b2, .ref b3, .ref b4, .ref b5, .ref b6, .ref b7, .int 0])), (h1, .inr (7, [.ref b8, .ref b9, .ref b10, .int 0, .int 0, .int 10, .int 150, .int 2, .int 0, .int 0]))] (fun r _ => r = F_don p1 p2) (fun u => []) := by
  refine ctI_of (by decide) (Nat.le_of_ble_eq_true rfl) (fun p e s m below meth c A ls Q hx hb hml hts hown hE hP hD hA hl ret => ?_)
  have hown : s.vm.findClass RX10 = some m.cls := hown
  have hS : va_S A s.heap s.heap [] := va_S.rf
  have hl : lv_has ls 4 [(0, .ref h0), (1, .int p1), (2, .int p2)] := hl
  refine lv_aload_n hx hb dX10_don_0 rfl (lv_at hl 0 rfl) ?_
  refine va_get (D := (dC, dI)) (ci := 10) (v := .ref h1) (C := RX10) (T := TX10) (N := 10) hx hb hts inB_10 hown hE.1 hP 0 rfl rfl 2 (by decide) (hts _ k_493) (fun _ h9 => h9) rfl dX10_don_1 ?_
  refine lv_iload_n hx hb dX10_don_4 rfl (lv_at hl 1 rfl) ?_
  refine caVi (n := 1) (wr := [(h0, .inr (10, [.ref b0, .ref b1, .ref h1, .ref b2, .ref b3, .ref b4, .ref b5, .ref b6, .ref b7, .int 0]))]) (rest := []) hx hb hml hown hts hE hP hD hS hA (cnX7_hasMan_1 l dC dI cy h1 b8 b9 b10 p1) k_802 k_307 k_308 k_104 k_309 (by decide +kernel) ⟨Nat.le_of_ble_eq_true rfl, Nat.le_of_ble_eq_true rfl⟩ [1] [0] rfl rfl rfl (by decide) (by decide) (by decide) 0 7 rfl rfl rfl hl.1 rfl (Nat.le_of_ble_eq_true rfl) dX10_don_5 ⟨Nat.le_of_ble_eq_true rfl, Nat.le_of_ble_eq_true rfl⟩ (fun rr u H locs hw hP hD hS => ?_)
  have hP : va_P (dC, dI) vwCl [(h0, .inr (10, [.ref b0, .ref b1, .ref h1, .ref b2, .ref b3, .ref b4, .ref b5, .ref b6, .ref b7, .int 0])), (h1, .inr (7, [.ref b8, .ref b9, .ref b10, .int 0, .int 0, .int 10, .int 150, .int 2, .int 0, .int 0]))] H := hP
  have hD : va_D A [(h0, .inr (10, [.ref b0, .ref b1, .ref h1, .ref b2, .ref b3, .ref b4, .ref b5, .ref b6, .ref b7, .int 0])), (h1, .inr (7, [.ref b8, .ref b9, .ref b10, .int 0, .int 0, .int 10, .int 150, .int 2, .int 0, .int 0]))] := hD
  refine tI (y := 0) hw ?_
  refine lv_if_eq (tgt := 34) hx hb dX10_don_8 (by decide) (fun _ => ?_) (fun c0 => absurd (by decide) c0)
  refine lv_bipush (v := (-2)) hx hb dX10_don_34 (by decide) ?_
  exact ret (-2) () _ _ _ _ _ _ rfl (pt_X10_don_222 p1 p2) (hP.sub [] rfl) (hD.sub [] (by decide) rfl) hS dX10_don_36 (Nat.le_of_ble_eq_true rfl) (Nat.le_of_ble_eq_true rfl)
theorem pt_X11_don_229 (p1 : Int32) (p2 : Int32) : ((-2) : Int32) = F_don p1 p2 := by
  unfold F_don
  (repeat' split)
  all_goals first | rfl | assumption | (exfalso; simp only [fa_lt, fa_le, fa_eq, tl_m2] at *; omega) | (simp only [fa_lt, fa_le, fa_eq, tl_m2] at *; omega)
set_option maxHeartbeats 4000000 in
set_option maxRecDepth 100000 in
theorem cnX11_don_1 (l : Launch) (dC : Nat → ClassId) (dI : Nat → Nat → Nat) (cy : Nat → ClassId) (h0 : Nat) (r : Nat → Nat) (p1 : Int32) (p2 : Int32) : ctI l (dC, dI) cy yX11_don cX11_don 4 .int 3 103 0 0 Unit [.ref h0, .int p1, .int p2] [(h0, .inr (11, mFs r mv0)), ((r 59), .inl (cy 1, 39, .inl zF)), ((r 60), .inl (cy 1, 39, .inl zF))] (fun r _ => r = F_don p1 p2) (fun u => []) := by
  refine ctI_of (by decide) (Nat.le_of_ble_eq_true rfl) (fun p e s m below meth c A ls Q hx hb hml hts hown hE hP hD hA hl ret => ?_)
  have hown : s.vm.findClass RX11 = some m.cls := hown
  have hS : va_S A s.heap s.heap [] := va_S.rf
  have hl : lv_has ls 4 [(0, .ref h0), (1, .int p1), (2, .int p2)] := hl
  refine lv_aload_n hx hb dX11_don_0 rfl (lv_at hl 0 rfl) ?_
  refine caVv (n := 0) (wr := []) (rest := []) hx hb hml hown hts hE hP hD hS hA (cnX11_fill_1 l dC dI cy h0 r) k_1739 k_1741 k_71 k_114 k_1742 (by decide +kernel) ⟨Nat.le_of_ble_eq_true rfl, Nat.le_of_ble_eq_true rfl⟩ [0, 1, 2] [] rfl rfl rfl (by decide) (by decide) (by decide) 0 11 rfl rfl rfl hl.1 rfl (Nat.le_of_ble_eq_true rfl) dX11_don_1 ⟨Nat.le_of_ble_eq_true rfl, Nat.le_of_ble_eq_true rfl⟩ (fun u H locs hw hP hD hS => ?_)
  have hP : va_P (dC, dI) vwCl [(h0, .inr (11, mFs r mv0)), ((r 59), .inl (cy 1, 39, .inl zF)), ((r 60), .inl (cy 1, 39, .inl zF))] H := hP
  have hD : va_D A [(h0, .inr (11, mFs r mv0)), ((r 59), .inl (cy 1, 39, .inl zF)), ((r 60), .inl (cy 1, 39, .inl zF))] := hD
  refine lv_aload_n hx hb dX11_don_4 rfl (lv_at hl 0 rfl) ?_
  refine lv_iload_n hx hb dX11_don_5 rfl (lv_at hl 1 rfl) ?_
  refine caVi (n := 1) (wr := [((r 59), .inl (cy 1, 39, .inl zF)), ((r 60), .inl (cy 1, 39, .inl zF))]) (rest := []) hx hb hml hown hts hE hP hD hS hA (cnX11_isMan_1 l dC dI cy h0 r p1) k_1732 k_1734 k_70 k_114 k_1735 (by decide +kernel) ⟨Nat.le_of_ble_eq_true rfl, Nat.le_of_ble_eq_true rfl⟩ [0] [1, 2] rfl rfl rfl (by decide) (by decide) (by decide) 0 11 rfl rfl rfl hl.1 rfl (Nat.le_of_ble_eq_true rfl) dX11_don_6 ⟨Nat.le_of_ble_eq_true rfl, Nat.le_of_ble_eq_true rfl⟩ (fun rr u H locs hw hP hD hS => ?_)
  have hP : va_P (dC, dI) vwCl [((r 59), .inl (cy 1, 39, .inl zF)), ((r 60), .inl (cy 1, 39, .inl zF)), (h0, .inr (11, mFs r mv0))] H := hP
  have hD : va_D A [((r 59), .inl (cy 1, 39, .inl zF)), ((r 60), .inl (cy 1, 39, .inl zF)), (h0, .inr (11, mFs r mv0))] := hD
  refine tI (y := 0) hw ?_
  refine lv_if_eq (tgt := 28) hx hb dX11_don_9 (by decide) (fun _ => ?_) (fun c0 => absurd (by decide) c0)
  refine lv_bipush (v := (-2)) hx hb dX11_don_28 (by decide) ?_
  exact ret (-2) () _ _ _ _ _ _ rfl (pt_X11_don_229 p1 p2) (hP.sub [] rfl) (hD.sub [] (by decide) rfl) hS dX11_don_30 (Nat.le_of_ble_eq_true rfl) (Nat.le_of_ble_eq_true rfl)
set_option maxHeartbeats 4000000 in
set_option maxRecDepth 100000 in
theorem cnX1_wears_1 (l : Launch) (dC : Nat → ClassId) (dI : Nat → Nat → Nat) (cy : Nat → ClassId) (h0 : Nat) (h1 : Nat) (b0 : Nat) (b1 : Nat) (b2 : Nat) (b3 : Nat) (p1 : Int32) : ctI l (dC, dI) cy yX1_wears cX1_wears 2 .int 2 81 0 0 Unit [.ref h0, .int p1] [(h0, .inr (1, [.ref h1, .ref b0])), (h1, .inr (7, [.ref b1, .ref b2, .ref b3, .int 0, .int 0, .int 10, .int 150, .int 2, .int 0, .int 0]))] (fun r _ => r = (-1)) (fun u => [(h0, .inr (1, [.ref h1, .ref b0])), (h1, .inr (7, [.ref b1, .ref b2, .ref b3, .int 0, .int 0, .int 10, .int 150, .int 2, .int 0, .int 0]))]) := by
  refine ctI_of (by decide) (Nat.le_of_ble_eq_true rfl) (fun p e s m below meth c A ls Q hx hb hml hts hown hE hP hD hA hl ret => ?_)
  have hown : s.vm.findClass RX1 = some m.cls := hown
  have hS : va_S A s.heap s.heap [] := va_S.rf
  have hl : lv_has ls 2 [(0, .ref h0), (1, .int p1)] := hl
  refine lv_aload_n hx hb dX1_wears_0 rfl (lv_at hl 0 rfl) ?_
  refine va_get (D := (dC, dI)) (ci := 1) (v := .ref h1) (C := RX1) (T := TX1) (N := 2) hx hb hts inB_1 hown hE.1 hP 0 rfl rfl 0 (by decide) (hts _ k_318) (fun _ h9 => h9) rfl dX1_wears_1 ?_
  refine lv_iload_n hx hb dX1_wears_4 rfl (lv_at hl 1 rfl) ?_
  refine caVi (n := 1) (wr := [(h0, .inr (1, [.ref h1, .ref b0]))]) (rest := []) hx hb hml hown hts hE hP hD hS hA (cnX7_hasMan_1 l dC dI cy h1 b1 b2 b3 p1) k_808 k_307 k_308 k_104 k_309 (by decide +kernel) ⟨Nat.le_of_ble_eq_true rfl, Nat.le_of_ble_eq_true rfl⟩ [1] [0] rfl rfl rfl (by decide) (by decide) (by decide) 0 7 rfl rfl rfl hl.1 rfl (Nat.le_of_ble_eq_true rfl) dX1_wears_5 ⟨Nat.le_of_ble_eq_true rfl, Nat.le_of_ble_eq_true rfl⟩ (fun rr u H locs hw hP hD hS => ?_)
  have hP : va_P (dC, dI) vwCl [(h0, .inr (1, [.ref h1, .ref b0])), (h1, .inr (7, [.ref b1, .ref b2, .ref b3, .int 0, .int 0, .int 10, .int 150, .int 2, .int 0, .int 0]))] H := hP
  have hD : va_D A [(h0, .inr (1, [.ref h1, .ref b0])), (h1, .inr (7, [.ref b1, .ref b2, .ref b3, .int 0, .int 0, .int 10, .int 150, .int 2, .int 0, .int 0]))] := hD
  refine tI (y := 0) hw ?_
  refine lv_if_eq (tgt := 23) hx hb dX1_wears_8 (by decide) (fun _ => ?_) (fun c0 => absurd (by decide) c0)
  refine lv_iconst (v := (-1)) hx hb dX1_wears_23 (by decide) ?_
  exact ret (-1) () _ _ _ _ _ _ rfl rfl (hP.sub [0, 1] rfl) (hD.sub [0, 1] (by decide) rfl) hS dX1_wears_24 (Nat.le_of_ble_eq_true rfl) (Nat.le_of_ble_eq_true rfl)
theorem pt_X10_doff_230 (p1 : Int32) : ((-1) : Int32) = F_doff p1 := by
  unfold F_doff
  (repeat' split)
  all_goals first | rfl | assumption | (exfalso; simp only [fa_lt, fa_le, fa_eq, tl_m1] at *; omega) | (simp only [fa_lt, fa_le, fa_eq, tl_m1] at *; omega)
set_option maxHeartbeats 4000000 in
set_option maxRecDepth 100000 in
theorem cnX10_doff_1 (l : Launch) (dC : Nat → ClassId) (dI : Nat → Nat → Nat) (cy : Nat → ClassId) (h0 : Nat) (h1 : Nat) (h2 : Nat) (b0 : Nat) (b1 : Nat) (b2 : Nat) (b3 : Nat) (b4 : Nat) (b5 : Nat) (b6 : Nat) (b7 : Nat) (b8 : Nat) (b9 : Nat) (b10 : Nat) (p1 : Int32) : ctI l (dC, dI) cy yX10_doff cX10_doff 3 .int 3 102 0 0 Unit [.ref h0, .int p1] [(h0, .inr (10, [.ref b0, .ref b1, .ref h2, .ref h1, .ref b2, .ref b3, .ref b4, .ref b5, .ref b6, .int 0])), (h1, .inr (1, [.ref h2, .ref b7])), (h2, .inr (7, [.ref b8, .ref b9, .ref b10, .int 0, .int 0, .int 10, .int 150, .int 2, .int 0, .int 0]))] (fun r _ => r = F_doff p1) (fun u => []) := by
  refine ctI_of (by decide) (Nat.le_of_ble_eq_true rfl) (fun p e s m below meth c A ls Q hx hb hml hts hown hE hP hD hA hl ret => ?_)
  have hown : s.vm.findClass RX10 = some m.cls := hown
  have hS : va_S A s.heap s.heap [] := va_S.rf
  have hl : lv_has ls 3 [(0, .ref h0), (1, .int p1)] := hl
  refine lv_aload_n hx hb dX10_doff_0 rfl (lv_at hl 0 rfl) ?_
  refine va_get (D := (dC, dI)) (ci := 10) (v := .ref h1) (C := RX10) (T := TX10) (N := 10) hx hb hts inB_10 hown hE.1 hP 0 rfl rfl 3 (by decide) (hts _ k_494) (fun _ h9 => h9) rfl dX10_doff_1 ?_
  refine lv_iload_n hx hb dX10_doff_4 rfl (lv_at hl 1 rfl) ?_
  refine caVi (n := 1) (wr := [(h0, .inr (10, [.ref b0, .ref b1, .ref h2, .ref h1, .ref b2, .ref b3, .ref b4, .ref b5, .ref b6, .int 0]))]) (rest := []) hx hb hml hown hts hE hP hD hS hA (cnX1_wears_1 l dC dI cy h1 h2 b7 b8 b9 b10 p1) k_809 k_810 k_811 k_106 k_812 (by decide +kernel) ⟨Nat.le_of_ble_eq_true rfl, Nat.le_of_ble_eq_true rfl⟩ [1, 2] [0] rfl rfl rfl (by decide) (by decide) (by decide) 0 1 rfl rfl rfl hl.1 rfl (Nat.le_of_ble_eq_true rfl) dX10_doff_5 ⟨Nat.le_of_ble_eq_true rfl, Nat.le_of_ble_eq_true rfl⟩ (fun rr u H locs hw hP hD hS => ?_)
  have hP : va_P (dC, dI) vwCl [(h0, .inr (10, [.ref b0, .ref b1, .ref h2, .ref h1, .ref b2, .ref b3, .ref b4, .ref b5, .ref b6, .int 0])), (h1, .inr (1, [.ref h2, .ref b7])), (h2, .inr (7, [.ref b8, .ref b9, .ref b10, .int 0, .int 0, .int 10, .int 150, .int 2, .int 0, .int 0]))] H := hP
  have hD : va_D A [(h0, .inr (10, [.ref b0, .ref b1, .ref h2, .ref h1, .ref b2, .ref b3, .ref b4, .ref b5, .ref b6, .int 0])), (h1, .inr (1, [.ref h2, .ref b7])), (h2, .inr (7, [.ref b8, .ref b9, .ref b10, .int 0, .int 0, .int 10, .int 150, .int 2, .int 0, .int 0]))] := hD
  refine tI (y := (-1)) hw ?_
  refine lv_istore_n (lv' := [(2, .int (-1)), (0, .ref h0), (1, .int p1)]) hx hb dX10_doff_8 rfl hl (by decide) rfl (fun ls hl => ?_)
  refine lv_iload_n hx hb dX10_doff_9 rfl (lv_at hl 0 rfl) ?_
  refine lv_iconst (v := (-1)) hx hb dX10_doff_10 (by decide) ?_
  refine lv_icmp_ne (tgt := 16) hx hb dX10_doff_11 (by decide) (fun c0 => absurd (by decide) c0) (fun _ => ?_)
  refine lv_iconst (v := (-1)) hx hb dX10_doff_14 (by decide) ?_
  exact ret (-1) () _ _ _ _ _ _ rfl (pt_X10_doff_230 p1) (hP.sub [] rfl) (hD.sub [] (by decide) rfl) hS dX10_doff_15 (Nat.le_of_ble_eq_true rfl) (Nat.le_of_ble_eq_true rfl)
theorem pt_X11_doff_231 (p1 : Int32) : ((-1) : Int32) = F_doff p1 := by
  unfold F_doff
  (repeat' split)
  all_goals first | rfl | assumption | (exfalso; simp only [fa_lt, fa_le, fa_eq, tl_m1] at *; omega) | (simp only [fa_lt, fa_le, fa_eq, tl_m1] at *; omega)
set_option maxHeartbeats 4000000 in
set_option maxRecDepth 100000 in
theorem cnX11_doff_1 (l : Launch) (dC : Nat → ClassId) (dI : Nat → Nat → Nat) (cy : Nat → ClassId) (h0 : Nat) (r : Nat → Nat) (p1 : Int32) : ctI l (dC, dI) cy yX11_doff cX11_doff 3 .int 3 103 0 0 Unit [.ref h0, .int p1] [(h0, .inr (11, mFs r mv0))] (fun r _ => r = F_doff p1) (fun u => []) := by
  refine ctI_of (by decide) (Nat.le_of_ble_eq_true rfl) (fun p e s m below meth c A ls Q hx hb hml hts hown hE hP hD hA hl ret => ?_)
  have hown : s.vm.findClass RX11 = some m.cls := hown
  have hS : va_S A s.heap s.heap [] := va_S.rf
  have hl : lv_has ls 3 [(0, .ref h0), (1, .int p1)] := hl
  refine lv_aload_n hx hb dX11_doff_0 rfl (lv_at hl 0 rfl) ?_
  refine lv_iload_n hx hb dX11_doff_1 rfl (lv_at hl 1 rfl) ?_
  refine caVi (n := 1) (wr := []) (rest := []) hx hb hml hown hts hE hP hD hS hA (cnX11_isMan_1 l dC dI cy h0 r p1) k_1732 k_1734 k_70 k_114 k_1735 (by decide +kernel) ⟨Nat.le_of_ble_eq_true rfl, Nat.le_of_ble_eq_true rfl⟩ [0] [] rfl rfl rfl (by decide) (by decide) (by decide) 0 11 rfl rfl rfl hl.1 rfl (Nat.le_of_ble_eq_true rfl) dX11_doff_2 ⟨Nat.le_of_ble_eq_true rfl, Nat.le_of_ble_eq_true rfl⟩ (fun rr u H locs hw hP hD hS => ?_)
  have hP : va_P (dC, dI) vwCl [(h0, .inr (11, mFs r mv0))] H := hP
  have hD : va_D A [(h0, .inr (11, mFs r mv0))] := hD
  refine tI (y := 0) hw ?_
  refine lv_if_eq (tgt := 20) hx hb dX11_doff_5 (by decide) (fun _ => ?_) (fun c0 => absurd (by decide) c0)
  refine lv_iconst (v := (-1)) hx hb dX11_doff_20 (by decide) ?_
  exact ret (-1) () _ _ _ _ _ _ rfl (pt_X11_doff_231 p1) (hP.sub [] rfl) (hD.sub [] (by decide) rfl) hS dX11_doff_21 (Nat.le_of_ble_eq_true rfl) (Nat.le_of_ble_eq_true rfl)
set_option maxHeartbeats 4000000 in
set_option maxRecDepth 100000 in
theorem cnX1_part_1 (l : Launch) (dC : Nat → ClassId) (dI : Nat → Nat → Nat) (cy : Nat → ClassId) (h0 : Nat) (h1 : Nat) (b0 : Nat) (b1 : Nat) (b2 : Nat) (b3 : Nat) (p1 : Int32) (p2 : Int32) : ctI l (dC, dI) cy yX1_part cX1_part 4 .int 2 81 0 0 Unit [.ref h0, .int p1, .int p2] [(h0, .inr (1, [.ref h1, .ref b0])), (h1, .inr (7, [.ref b1, .ref b2, .ref b3, .int 0, .int 0, .int 10, .int 150, .int 2, .int 0, .int 0]))] (fun r _ => r = 0) (fun u => [(h0, .inr (1, [.ref h1, .ref b0])), (h1, .inr (7, [.ref b1, .ref b2, .ref b3, .int 0, .int 0, .int 10, .int 150, .int 2, .int 0, .int 0]))]) := by
  refine ctI_of (by decide) (Nat.le_of_ble_eq_true rfl) (fun p e s m below meth c A ls Q hx hb hml hts hown hE hP hD hA hl ret => ?_)
  have hown : s.vm.findClass RX1 = some m.cls := hown
  have hS : va_S A s.heap s.heap [] := va_S.rf
  have hl : lv_has ls 4 [(0, .ref h0), (1, .int p1), (2, .int p2)] := hl
  refine lv_aload_n hx hb dX1_part_0 rfl (lv_at hl 0 rfl) ?_
  refine va_get (D := (dC, dI)) (ci := 1) (v := .ref h1) (C := RX1) (T := TX1) (N := 2) hx hb hts inB_1 hown hE.1 hP 0 rfl rfl 0 (by decide) (hts _ k_318) (fun _ h9 => h9) rfl dX1_part_1 ?_
  refine lv_iload_n hx hb dX1_part_4 rfl (lv_at hl 2 rfl) ?_
  refine caVi (n := 1) (wr := [(h0, .inr (1, [.ref h1, .ref b0]))]) (rest := []) hx hb hml hown hts hE hP hD hS hA (cnX7_hasCoat_1 l dC dI cy h1 b1 b2 b3 p2) k_821 k_315 k_316 k_104 k_317 (by decide +kernel) ⟨Nat.le_of_ble_eq_true rfl, Nat.le_of_ble_eq_true rfl⟩ [1] [0] rfl rfl rfl (by decide) (by decide) (by decide) 0 7 rfl rfl rfl hl.1 rfl (Nat.le_of_ble_eq_true rfl) dX1_part_5 ⟨Nat.le_of_ble_eq_true rfl, Nat.le_of_ble_eq_true rfl⟩ (fun rr u H locs hw hP hD hS => ?_)
  have hP : va_P (dC, dI) vwCl [(h0, .inr (1, [.ref h1, .ref b0])), (h1, .inr (7, [.ref b1, .ref b2, .ref b3, .int 0, .int 0, .int 10, .int 150, .int 2, .int 0, .int 0]))] H := hP
  have hD : va_D A [(h0, .inr (1, [.ref h1, .ref b0])), (h1, .inr (7, [.ref b1, .ref b2, .ref b3, .int 0, .int 0, .int 10, .int 150, .int 2, .int 0, .int 0]))] := hD
  refine tI (y := 0) hw ?_
  refine lv_if_eq (tgt := 24) hx hb dX1_part_8 (by decide) (fun _ => ?_) (fun c0 => absurd (by decide) c0)
  refine lv_iconst (v := 0) hx hb dX1_part_24 (by decide) ?_
  refine lv_istore_n (lv' := [(3, .int 0), (0, .ref h0), (1, .int p1), (2, .int p2)]) hx hb dX1_part_25 rfl hl (by decide) rfl (fun ls hl => ?_)
  refine lv_iload_n hx hb dX1_part_26 rfl (lv_at hl 0 rfl) ?_
  refine lv_if_eq (tgt := 47) hx hb dX1_part_27 (by decide) (fun _ => ?_) (fun c0 => absurd (by decide) c0)
  refine lv_iconst (v := 0) hx hb dX1_part_47 (by decide) ?_
  exact ret 0 () _ _ _ _ _ _ rfl rfl (hP.sub [0, 1] rfl) (hD.sub [0, 1] (by decide) rfl) hS dX1_part_48 (Nat.le_of_ble_eq_true rfl) (Nat.le_of_ble_eq_true rfl)
theorem pt_X10_letout_232 (p1 : Int32) (p2 : Int32) (c1 : p2 < 1) : ((-1) : Int32) = F_letout p1 p2 := by
  unfold F_letout
  (repeat' split)
  all_goals first | rfl | assumption | (exfalso; simp only [fa_lt, fa_le, fa_eq, tl_m1, tl_1] at *; omega) | (simp only [fa_lt, fa_le, fa_eq, tl_m1, tl_1] at *; omega)
theorem po_X10_letout_233 (p2 : Int32) (c1 : ¬ p2 < 1) : ¬ p2 ≤ 0 := by simp only [fa_lt, fa_le, fa_eq, tl_0, tl_1] at *; omega
theorem pt_X10_letout_234 (p1 : Int32) (p2 : Int32) (c1 : ¬ p2 < 1) : ((-1) : Int32) = F_letout p1 p2 := by
  unfold F_letout
  (repeat' split)
  all_goals first | rfl | assumption | (exfalso; simp only [fa_lt, fa_le, fa_eq, tl_m1, tl_1] at *; omega) | (simp only [fa_lt, fa_le, fa_eq, tl_m1, tl_1] at *; omega)
set_option maxHeartbeats 4000000 in
set_option maxRecDepth 100000 in
theorem cnX10_letout_1 (l : Launch) (dC : Nat → ClassId) (dI : Nat → Nat → Nat) (cy : Nat → ClassId) (h0 : Nat) (h1 : Nat) (h2 : Nat) (b0 : Nat) (b1 : Nat) (b2 : Nat) (b3 : Nat) (b4 : Nat) (b5 : Nat) (b6 : Nat) (b7 : Nat) (b8 : Nat) (b9 : Nat) (b10 : Nat) (p1 : Int32) (p2 : Int32) : ctI l (dC, dI) cy yX10_letout cX10_letout 3 .int 3 104 0 0 Unit [.ref h0, .int p1, .int p2] [(h0, .inr (10, [.ref b0, .ref b1, .ref h2, .ref h1, .ref b2, .ref b3, .ref b4, .ref b5, .ref b6, .int 0])), (h1, .inr (1, [.ref h2, .ref b7])), (h2, .inr (7, [.ref b8, .ref b9, .ref b10, .int 0, .int 0, .int 10, .int 150, .int 2, .int 0, .int 0]))] (fun r _ => r = F_letout p1 p2) (fun u => []) := by
  refine ctI_of (by decide) (Nat.le_of_ble_eq_true rfl) (fun p e s m below meth c A ls Q hx hb hml hts hown hE hP hD hA hl ret => ?_)
  have hown : s.vm.findClass RX10 = some m.cls := hown
  have hS : va_S A s.heap s.heap [] := va_S.rf
  have hl : lv_has ls 3 [(0, .ref h0), (1, .int p1), (2, .int p2)] := hl
  refine lv_iload_n hx hb dX10_letout_0 rfl (lv_at hl 2 rfl) ?_
  refine lv_iconst (v := 1) hx hb dX10_letout_1 (by decide) ?_
  refine lv_icmp_lt (tgt := 18) hx hb dX10_letout_2 (by decide) (fun c1 => ?_) (fun c1 => ?_)
  · skip
    refine lv_iconst (v := (-1)) hx hb dX10_letout_18 (by decide) ?_
    exact ret (-1) () _ _ _ _ _ _ rfl (pt_X10_letout_232 p1 p2 c1) (hP.sub [] rfl) (hD.sub [] (by decide) rfl) hS dX10_letout_19 (Nat.le_of_ble_eq_true rfl) (Nat.le_of_ble_eq_true rfl)
  · skip
    refine lv_iload_n hx hb dX10_letout_5 rfl (lv_at hl 2 rfl) ?_
    refine lv_aload_n hx hb dX10_letout_6 rfl (lv_at hl 0 rfl) ?_
    refine va_get (D := (dC, dI)) (ci := 10) (v := .ref h1) (C := RX10) (T := TX10) (N := 10) hx hb hts inB_10 hown hE.1 hP 0 rfl rfl 3 (by decide) (hts _ k_494) (fun _ h9 => h9) rfl dX10_letout_7 ?_
    refine lv_iconst (v := 2) hx hb dX10_letout_10 (by decide) ?_
    refine lv_iload_n hx hb dX10_letout_11 rfl (lv_at hl 1 rfl) ?_
    refine caVi (n := 2) (wr := [(h0, .inr (10, [.ref b0, .ref b1, .ref h2, .ref h1, .ref b2, .ref b3, .ref b4, .ref b5, .ref b6, .int 0]))]) (rest := [.int p2]) hx hb hml hown hts hE hP hD hS hA (cnX1_part_1 l dC dI cy h1 h2 b7 b8 b9 b10 2 p1) k_854 k_828 k_829 k_106 k_830 (by decide +kernel) ⟨Nat.le_of_ble_eq_true rfl, Nat.le_of_ble_eq_true rfl⟩ [1, 2] [0] rfl rfl rfl (by decide) (by decide) (by decide) 0 1 rfl rfl rfl hl.1 rfl (Nat.le_of_ble_eq_true rfl) dX10_letout_12 ⟨Nat.le_of_ble_eq_true rfl, Nat.le_of_ble_eq_true rfl⟩ (fun rr u H locs hw hP hD hS => ?_)
    have hP : va_P (dC, dI) vwCl [(h0, .inr (10, [.ref b0, .ref b1, .ref h2, .ref h1, .ref b2, .ref b3, .ref b4, .ref b5, .ref b6, .int 0])), (h1, .inr (1, [.ref h2, .ref b7])), (h2, .inr (7, [.ref b8, .ref b9, .ref b10, .int 0, .int 0, .int 10, .int 150, .int 2, .int 0, .int 0]))] H := hP
    have hD : va_D A [(h0, .inr (10, [.ref b0, .ref b1, .ref h2, .ref h1, .ref b2, .ref b3, .ref b4, .ref b5, .ref b6, .int 0])), (h1, .inr (1, [.ref h2, .ref b7])), (h2, .inr (7, [.ref b8, .ref b9, .ref b10, .int 0, .int 0, .int 10, .int 150, .int 2, .int 0, .int 0]))] := hD
    refine tI (y := 0) hw ?_
    refine lv_icmp_le (tgt := 20) hx hb dX10_letout_15 (by decide) (fun c0 => absurd c0 (po_X10_letout_233 p2 c1)) (fun _ => ?_)
    refine lv_iconst (v := (-1)) hx hb dX10_letout_18 (by decide) ?_
    exact ret (-1) () _ _ _ _ _ _ rfl (pt_X10_letout_234 p1 p2 c1) (hP.sub [] rfl) (hD.sub [] (by decide) rfl) hS dX10_letout_19 (Nat.le_of_ble_eq_true rfl) (Nat.le_of_ble_eq_true rfl)
theorem pt_X11_letout_235 (p1 : Int32) (p2 : Int32) : ((-1) : Int32) = F_letout p1 p2 := by
  unfold F_letout
  (repeat' split)
  all_goals first | rfl | assumption | (exfalso; simp only [fa_lt, fa_le, fa_eq, tl_m1] at *; omega) | (simp only [fa_lt, fa_le, fa_eq, tl_m1] at *; omega)
set_option maxHeartbeats 4000000 in
set_option maxRecDepth 100000 in
theorem cnX11_letout_1 (l : Launch) (dC : Nat → ClassId) (dI : Nat → Nat → Nat) (cy : Nat → ClassId) (h0 : Nat) (r : Nat → Nat) (p1 : Int32) (p2 : Int32) : ctI l (dC, dI) cy yX11_letout cX11_letout 3 .int 3 103 0 0 Unit [.ref h0, .int p1, .int p2] [(h0, .inr (11, mFs r mv0))] (fun r _ => r = F_letout p1 p2) (fun u => []) := by
  refine ctI_of (by decide) (Nat.le_of_ble_eq_true rfl) (fun p e s m below meth c A ls Q hx hb hml hts hown hE hP hD hA hl ret => ?_)
  have hown : s.vm.findClass RX11 = some m.cls := hown
  have hS : va_S A s.heap s.heap [] := va_S.rf
  have hl : lv_has ls 3 [(0, .ref h0), (1, .int p1), (2, .int p2)] := hl
  refine lv_aload_n hx hb dX11_letout_0 rfl (lv_at hl 0 rfl) ?_
  refine lv_iload_n hx hb dX11_letout_1 rfl (lv_at hl 1 rfl) ?_
  refine caVi (n := 1) (wr := []) (rest := []) hx hb hml hown hts hE hP hD hS hA (cnX11_isCoat_1 l dC dI cy h0 r p1) k_1771 k_1773 k_75 k_114 k_1774 (by decide +kernel) ⟨Nat.le_of_ble_eq_true rfl, Nat.le_of_ble_eq_true rfl⟩ [0] [] rfl rfl rfl (by decide) (by decide) (by decide) 0 11 rfl rfl rfl hl.1 rfl (Nat.le_of_ble_eq_true rfl) dX11_letout_2 ⟨Nat.le_of_ble_eq_true rfl, Nat.le_of_ble_eq_true rfl⟩ (fun rr u H locs hw hP hD hS => ?_)
  have hP : va_P (dC, dI) vwCl [(h0, .inr (11, mFs r mv0))] H := hP
  have hD : va_D A [(h0, .inr (11, mFs r mv0))] := hD
  refine tI (y := 0) hw ?_
  refine lv_if_eq (tgt := 41) hx hb dX11_letout_5 (by decide) (fun _ => ?_) (fun c0 => absurd (by decide) c0)
  refine lv_iconst (v := (-1)) hx hb dX11_letout_41 (by decide) ?_
  exact ret (-1) () _ _ _ _ _ _ rfl (pt_X11_letout_235 p1 p2) (hP.sub [] rfl) (hD.sub [] (by decide) rfl) hS dX11_letout_42 (Nat.le_of_ble_eq_true rfl) (Nat.le_of_ble_eq_true rfl)
theorem pt_X10_takein_236 (p1 : Int32) (p2 : Int32) (c1 : p2 < 1) : ((-1) : Int32) = F_takein p1 p2 := by
  unfold F_takein
  (repeat' split)
  all_goals first | rfl | assumption | (exfalso; simp only [fa_lt, fa_le, fa_eq, tl_m1, tl_1] at *; omega) | (simp only [fa_lt, fa_le, fa_eq, tl_m1, tl_1] at *; omega)
theorem po_X10_takein_237 (p2 : Int32) (c1 : ¬ p2 < 1) : ¬ p2 ≤ 0 := by simp only [fa_lt, fa_le, fa_eq, tl_0, tl_1] at *; omega
theorem pt_X10_takein_238 (p1 : Int32) (p2 : Int32) (c1 : ¬ p2 < 1) : ((-1) : Int32) = F_takein p1 p2 := by
  unfold F_takein
  (repeat' split)
  all_goals first | rfl | assumption | (exfalso; simp only [fa_lt, fa_le, fa_eq, tl_m1, tl_1] at *; omega) | (simp only [fa_lt, fa_le, fa_eq, tl_m1, tl_1] at *; omega)
set_option maxHeartbeats 4000000 in
set_option maxRecDepth 100000 in
theorem cnX10_takein_1 (l : Launch) (dC : Nat → ClassId) (dI : Nat → Nat → Nat) (cy : Nat → ClassId) (h0 : Nat) (h1 : Nat) (h2 : Nat) (b0 : Nat) (b1 : Nat) (b2 : Nat) (b3 : Nat) (b4 : Nat) (b5 : Nat) (b6 : Nat) (b7 : Nat) (b8 : Nat) (b9 : Nat) (b10 : Nat) (p1 : Int32) (p2 : Int32) : ctI l (dC, dI) cy yX10_takein cX10_takein 3 .int 3 104 0 0 Unit [.ref h0, .int p1, .int p2] [(h0, .inr (10, [.ref b0, .ref b1, .ref h2, .ref h1, .ref b2, .ref b3, .ref b4, .ref b5, .ref b6, .int 0])), (h1, .inr (1, [.ref h2, .ref b7])), (h2, .inr (7, [.ref b8, .ref b9, .ref b10, .int 0, .int 0, .int 10, .int 150, .int 2, .int 0, .int 0]))] (fun r _ => r = F_takein p1 p2) (fun u => []) := by
  refine ctI_of (by decide) (Nat.le_of_ble_eq_true rfl) (fun p e s m below meth c A ls Q hx hb hml hts hown hE hP hD hA hl ret => ?_)
  have hown : s.vm.findClass RX10 = some m.cls := hown
  have hS : va_S A s.heap s.heap [] := va_S.rf
  have hl : lv_has ls 3 [(0, .ref h0), (1, .int p1), (2, .int p2)] := hl
  refine lv_iload_n hx hb dX10_takein_0 rfl (lv_at hl 2 rfl) ?_
  refine lv_iconst (v := 1) hx hb dX10_takein_1 (by decide) ?_
  refine lv_icmp_lt (tgt := 18) hx hb dX10_takein_2 (by decide) (fun c1 => ?_) (fun c1 => ?_)
  · skip
    refine lv_iconst (v := (-1)) hx hb dX10_takein_18 (by decide) ?_
    exact ret (-1) () _ _ _ _ _ _ rfl (pt_X10_takein_236 p1 p2 c1) (hP.sub [] rfl) (hD.sub [] (by decide) rfl) hS dX10_takein_19 (Nat.le_of_ble_eq_true rfl) (Nat.le_of_ble_eq_true rfl)
  · skip
    refine lv_iload_n hx hb dX10_takein_5 rfl (lv_at hl 2 rfl) ?_
    refine lv_aload_n hx hb dX10_takein_6 rfl (lv_at hl 0 rfl) ?_
    refine va_get (D := (dC, dI)) (ci := 10) (v := .ref h1) (C := RX10) (T := TX10) (N := 10) hx hb hts inB_10 hown hE.1 hP 0 rfl rfl 3 (by decide) (hts _ k_494) (fun _ h9 => h9) rfl dX10_takein_7 ?_
    refine lv_iconst (v := 1) hx hb dX10_takein_10 (by decide) ?_
    refine lv_iload_n hx hb dX10_takein_11 rfl (lv_at hl 1 rfl) ?_
    refine caVi (n := 2) (wr := [(h0, .inr (10, [.ref b0, .ref b1, .ref h2, .ref h1, .ref b2, .ref b3, .ref b4, .ref b5, .ref b6, .int 0]))]) (rest := [.int p2]) hx hb hml hown hts hE hP hD hS hA (cnX1_part_1 l dC dI cy h1 h2 b7 b8 b9 b10 1 p1) k_854 k_828 k_829 k_106 k_830 (by decide +kernel) ⟨Nat.le_of_ble_eq_true rfl, Nat.le_of_ble_eq_true rfl⟩ [1, 2] [0] rfl rfl rfl (by decide) (by decide) (by decide) 0 1 rfl rfl rfl hl.1 rfl (Nat.le_of_ble_eq_true rfl) dX10_takein_12 ⟨Nat.le_of_ble_eq_true rfl, Nat.le_of_ble_eq_true rfl⟩ (fun rr u H locs hw hP hD hS => ?_)
    have hP : va_P (dC, dI) vwCl [(h0, .inr (10, [.ref b0, .ref b1, .ref h2, .ref h1, .ref b2, .ref b3, .ref b4, .ref b5, .ref b6, .int 0])), (h1, .inr (1, [.ref h2, .ref b7])), (h2, .inr (7, [.ref b8, .ref b9, .ref b10, .int 0, .int 0, .int 10, .int 150, .int 2, .int 0, .int 0]))] H := hP
    have hD : va_D A [(h0, .inr (10, [.ref b0, .ref b1, .ref h2, .ref h1, .ref b2, .ref b3, .ref b4, .ref b5, .ref b6, .int 0])), (h1, .inr (1, [.ref h2, .ref b7])), (h2, .inr (7, [.ref b8, .ref b9, .ref b10, .int 0, .int 0, .int 10, .int 150, .int 2, .int 0, .int 0]))] := hD
    refine tI (y := 0) hw ?_
    refine lv_icmp_le (tgt := 20) hx hb dX10_takein_15 (by decide) (fun c0 => absurd c0 (po_X10_takein_237 p2 c1)) (fun _ => ?_)
    refine lv_iconst (v := (-1)) hx hb dX10_takein_18 (by decide) ?_
    exact ret (-1) () _ _ _ _ _ _ rfl (pt_X10_takein_238 p1 p2 c1) (hP.sub [] rfl) (hD.sub [] (by decide) rfl) hS dX10_takein_19 (Nat.le_of_ble_eq_true rfl) (Nat.le_of_ble_eq_true rfl)
theorem pt_X11_takein_239 (p1 : Int32) (p2 : Int32) : ((-1) : Int32) = F_takein p1 p2 := by
  unfold F_takein
  (repeat' split)
  all_goals first | rfl | assumption | (exfalso; simp only [fa_lt, fa_le, fa_eq, tl_m1] at *; omega) | (simp only [fa_lt, fa_le, fa_eq, tl_m1] at *; omega)
set_option maxHeartbeats 4000000 in
set_option maxRecDepth 100000 in
theorem cnX11_takein_1 (l : Launch) (dC : Nat → ClassId) (dI : Nat → Nat → Nat) (cy : Nat → ClassId) (h0 : Nat) (r : Nat → Nat) (p1 : Int32) (p2 : Int32) : ctI l (dC, dI) cy yX11_takein cX11_takein 3 .int 3 103 0 0 Unit [.ref h0, .int p1, .int p2] [(h0, .inr (11, mFs r mv0))] (fun r _ => r = F_takein p1 p2) (fun u => []) := by
  refine ctI_of (by decide) (Nat.le_of_ble_eq_true rfl) (fun p e s m below meth c A ls Q hx hb hml hts hown hE hP hD hA hl ret => ?_)
  have hown : s.vm.findClass RX11 = some m.cls := hown
  have hS : va_S A s.heap s.heap [] := va_S.rf
  have hl : lv_has ls 3 [(0, .ref h0), (1, .int p1), (2, .int p2)] := hl
  refine lv_aload_n hx hb dX11_takein_0 rfl (lv_at hl 0 rfl) ?_
  refine lv_iload_n hx hb dX11_takein_1 rfl (lv_at hl 1 rfl) ?_
  refine caVi (n := 1) (wr := []) (rest := []) hx hb hml hown hts hE hP hD hS hA (cnX11_isCoat_1 l dC dI cy h0 r p1) k_1771 k_1773 k_75 k_114 k_1774 (by decide +kernel) ⟨Nat.le_of_ble_eq_true rfl, Nat.le_of_ble_eq_true rfl⟩ [0] [] rfl rfl rfl (by decide) (by decide) (by decide) 0 11 rfl rfl rfl hl.1 rfl (Nat.le_of_ble_eq_true rfl) dX11_takein_2 ⟨Nat.le_of_ble_eq_true rfl, Nat.le_of_ble_eq_true rfl⟩ (fun rr u H locs hw hP hD hS => ?_)
  have hP : va_P (dC, dI) vwCl [(h0, .inr (11, mFs r mv0))] H := hP
  have hD : va_D A [(h0, .inr (11, mFs r mv0))] := hD
  refine tI (y := 0) hw ?_
  refine lv_if_eq (tgt := 41) hx hb dX11_takein_5 (by decide) (fun _ => ?_) (fun c0 => absurd (by decide) c0)
  refine lv_iconst (v := (-1)) hx hb dX11_takein_41 (by decide) ?_
  exact ret (-1) () _ _ _ _ _ _ rfl (pt_X11_takein_239 p1 p2) (hP.sub [] rfl) (hD.sub [] (by decide) rfl) hS dX11_takein_42 (Nat.le_of_ble_eq_true rfl) (Nat.le_of_ble_eq_true rfl)
theorem pt_X10_hem_240 (p1 : Int32) (p2 : Int32) (c1 : p2 < 1) : ((-1) : Int32) = F_hem p1 p2 := by
  unfold F_hem
  (repeat' split)
  all_goals first | rfl | assumption | (exfalso; simp only [fa_lt, fa_le, fa_eq, tl_m1, tl_1] at *; omega) | (simp only [fa_lt, fa_le, fa_eq, tl_m1, tl_1] at *; omega)
theorem po_X10_hem_241 (p2 : Int32) (c1 : ¬ p2 < 1) : ¬ p2 ≤ 0 := by simp only [fa_lt, fa_le, fa_eq, tl_0, tl_1] at *; omega
theorem pt_X10_hem_242 (p1 : Int32) (p2 : Int32) (c1 : ¬ p2 < 1) : ((-1) : Int32) = F_hem p1 p2 := by
  unfold F_hem
  (repeat' split)
  all_goals first | rfl | assumption | (exfalso; simp only [fa_lt, fa_le, fa_eq, tl_m1, tl_1] at *; omega) | (simp only [fa_lt, fa_le, fa_eq, tl_m1, tl_1] at *; omega)
set_option maxHeartbeats 4000000 in
set_option maxRecDepth 100000 in
theorem cnX10_hem_1 (l : Launch) (dC : Nat → ClassId) (dI : Nat → Nat → Nat) (cy : Nat → ClassId) (h0 : Nat) (h1 : Nat) (h2 : Nat) (b0 : Nat) (b1 : Nat) (b2 : Nat) (b3 : Nat) (b4 : Nat) (b5 : Nat) (b6 : Nat) (b7 : Nat) (b8 : Nat) (b9 : Nat) (b10 : Nat) (p1 : Int32) (p2 : Int32) : ctI l (dC, dI) cy yX10_hem cX10_hem 4 .int 3 104 0 0 Unit [.ref h0, .int p1, .int p2] [(h0, .inr (10, [.ref b0, .ref b1, .ref h2, .ref h1, .ref b2, .ref b3, .ref b4, .ref b5, .ref b6, .int 0])), (h1, .inr (1, [.ref h2, .ref b7])), (h2, .inr (7, [.ref b8, .ref b9, .ref b10, .int 0, .int 0, .int 10, .int 150, .int 2, .int 0, .int 0]))] (fun r _ => r = F_hem p1 p2) (fun u => []) := by
  refine ctI_of (by decide) (Nat.le_of_ble_eq_true rfl) (fun p e s m below meth c A ls Q hx hb hml hts hown hE hP hD hA hl ret => ?_)
  have hown : s.vm.findClass RX10 = some m.cls := hown
  have hS : va_S A s.heap s.heap [] := va_S.rf
  have hl : lv_has ls 4 [(0, .ref h0), (1, .int p1), (2, .int p2)] := hl
  refine lv_aload_n hx hb dX10_hem_0 rfl (lv_at hl 0 rfl) ?_
  refine va_get (D := (dC, dI)) (ci := 10) (v := .ref h1) (C := RX10) (T := TX10) (N := 10) hx hb hts inB_10 hown hE.1 hP 0 rfl rfl 3 (by decide) (hts _ k_494) (fun _ h9 => h9) rfl dX10_hem_1 ?_
  refine lv_iconst (v := 0) hx hb dX10_hem_4 (by decide) ?_
  refine lv_iload_n hx hb dX10_hem_5 rfl (lv_at hl 1 rfl) ?_
  refine caVi (n := 2) (wr := [(h0, .inr (10, [.ref b0, .ref b1, .ref h2, .ref h1, .ref b2, .ref b3, .ref b4, .ref b5, .ref b6, .int 0]))]) (rest := []) hx hb hml hown hts hE hP hD hS hA (cnX1_part_1 l dC dI cy h1 h2 b7 b8 b9 b10 0 p1) k_854 k_828 k_829 k_106 k_830 (by decide +kernel) ⟨Nat.le_of_ble_eq_true rfl, Nat.le_of_ble_eq_true rfl⟩ [1, 2] [0] rfl rfl rfl (by decide) (by decide) (by decide) 0 1 rfl rfl rfl hl.1 rfl (Nat.le_of_ble_eq_true rfl) dX10_hem_6 ⟨Nat.le_of_ble_eq_true rfl, Nat.le_of_ble_eq_true rfl⟩ (fun rr u H locs hw hP hD hS => ?_)
  have hP : va_P (dC, dI) vwCl [(h0, .inr (10, [.ref b0, .ref b1, .ref h2, .ref h1, .ref b2, .ref b3, .ref b4, .ref b5, .ref b6, .int 0])), (h1, .inr (1, [.ref h2, .ref b7])), (h2, .inr (7, [.ref b8, .ref b9, .ref b10, .int 0, .int 0, .int 10, .int 150, .int 2, .int 0, .int 0]))] H := hP
  have hD : va_D A [(h0, .inr (10, [.ref b0, .ref b1, .ref h2, .ref h1, .ref b2, .ref b3, .ref b4, .ref b5, .ref b6, .int 0])), (h1, .inr (1, [.ref h2, .ref b7])), (h2, .inr (7, [.ref b8, .ref b9, .ref b10, .int 0, .int 0, .int 10, .int 150, .int 2, .int 0, .int 0]))] := hD
  refine tI (y := 0) hw ?_
  refine lv_istore_n (lv' := [(3, .int 0), (0, .ref h0), (1, .int p1), (2, .int p2)]) hx hb dX10_hem_9 rfl hl (by decide) rfl (fun ls hl => ?_)
  refine lv_iload_n hx hb dX10_hem_10 rfl (lv_at hl 3 rfl) ?_
  refine lv_iconst (v := 1) hx hb dX10_hem_11 (by decide) ?_
  refine lv_icmp_lt (tgt := 20) hx hb dX10_hem_12 (by decide) (fun c1 => ?_) (fun c1 => ?_)
  · skip
    refine lv_iconst (v := (-1)) hx hb dX10_hem_20 (by decide) ?_
    exact ret (-1) () _ _ _ _ _ _ rfl (pt_X10_hem_240 p1 p2 c1) (hP.sub [] rfl) (hD.sub [] (by decide) rfl) hS dX10_hem_21 (Nat.le_of_ble_eq_true rfl) (Nat.le_of_ble_eq_true rfl)
  · skip
    refine lv_iload_n hx hb dX10_hem_15 rfl (lv_at hl 3 rfl) ?_
    refine lv_iload_n hx hb dX10_hem_16 rfl (lv_at hl 0 rfl) ?_
    refine lv_icmp_le (tgt := 22) hx hb dX10_hem_17 (by decide) (fun c0 => absurd c0 (po_X10_hem_241 p2 c1)) (fun _ => ?_)
    refine lv_iconst (v := (-1)) hx hb dX10_hem_20 (by decide) ?_
    exact ret (-1) () _ _ _ _ _ _ rfl (pt_X10_hem_242 p1 p2 c1) (hP.sub [] rfl) (hD.sub [] (by decide) rfl) hS dX10_hem_21 (Nat.le_of_ble_eq_true rfl) (Nat.le_of_ble_eq_true rfl)
theorem pt_X11_hem_243 (p1 : Int32) (p2 : Int32) : ((-1) : Int32) = F_hem p1 p2 := by
  unfold F_hem
  (repeat' split)
  all_goals first | rfl | assumption | (exfalso; simp only [fa_lt, fa_le, fa_eq, tl_m1] at *; omega) | (simp only [fa_lt, fa_le, fa_eq, tl_m1] at *; omega)
set_option maxHeartbeats 4000000 in
set_option maxRecDepth 100000 in
theorem cnX11_hem_1 (l : Launch) (dC : Nat → ClassId) (dI : Nat → Nat → Nat) (cy : Nat → ClassId) (h0 : Nat) (r : Nat → Nat) (p1 : Int32) (p2 : Int32) : ctI l (dC, dI) cy yX11_hem cX11_hem 3 .int 3 103 0 0 Unit [.ref h0, .int p1, .int p2] [(h0, .inr (11, mFs r mv0))] (fun r _ => r = F_hem p1 p2) (fun u => []) := by
  refine ctI_of (by decide) (Nat.le_of_ble_eq_true rfl) (fun p e s m below meth c A ls Q hx hb hml hts hown hE hP hD hA hl ret => ?_)
  have hown : s.vm.findClass RX11 = some m.cls := hown
  have hS : va_S A s.heap s.heap [] := va_S.rf
  have hl : lv_has ls 3 [(0, .ref h0), (1, .int p1), (2, .int p2)] := hl
  refine lv_aload_n hx hb dX11_hem_0 rfl (lv_at hl 0 rfl) ?_
  refine lv_iload_n hx hb dX11_hem_1 rfl (lv_at hl 1 rfl) ?_
  refine caVi (n := 1) (wr := []) (rest := []) hx hb hml hown hts hE hP hD hS hA (cnX11_isCoat_1 l dC dI cy h0 r p1) k_1771 k_1773 k_75 k_114 k_1774 (by decide +kernel) ⟨Nat.le_of_ble_eq_true rfl, Nat.le_of_ble_eq_true rfl⟩ [0] [] rfl rfl rfl (by decide) (by decide) (by decide) 0 11 rfl rfl rfl hl.1 rfl (Nat.le_of_ble_eq_true rfl) dX11_hem_2 ⟨Nat.le_of_ble_eq_true rfl, Nat.le_of_ble_eq_true rfl⟩ (fun rr u H locs hw hP hD hS => ?_)
  have hP : va_P (dC, dI) vwCl [(h0, .inr (11, mFs r mv0))] H := hP
  have hD : va_D A [(h0, .inr (11, mFs r mv0))] := hD
  refine tI (y := 0) hw ?_
  refine lv_if_eq (tgt := 25) hx hb dX11_hem_5 (by decide) (fun _ => ?_) (fun c0 => absurd (by decide) c0)
  refine lv_iconst (v := (-1)) hx hb dX11_hem_25 (by decide) ?_
  exact ret (-1) () _ _ _ _ _ _ rfl (pt_X11_hem_243 p1 p2) (hP.sub [] rfl) (hD.sub [] (by decide) rfl) hS dX11_hem_26 (Nat.le_of_ble_eq_true rfl) (Nat.le_of_ble_eq_true rfl)
theorem pt_X10_turn_244 (p1 : Int32) : ((-1) : Int32) = F_turn p1 := by
  unfold F_turn
  (repeat' split)
  all_goals first | rfl | assumption | (exfalso; simp only [fa_lt, fa_le, fa_eq, tl_m1] at *; omega) | (simp only [fa_lt, fa_le, fa_eq, tl_m1] at *; omega)
set_option maxHeartbeats 4000000 in
set_option maxRecDepth 100000 in
theorem cnX10_turn_1 (l : Launch) (dC : Nat → ClassId) (dI : Nat → Nat → Nat) (cy : Nat → ClassId) (h0 : Nat) (h1 : Nat) (b0 : Nat) (b1 : Nat) (b2 : Nat) (b3 : Nat) (b4 : Nat) (b5 : Nat) (b6 : Nat) (b7 : Nat) (b8 : Nat) (b9 : Nat) (b10 : Nat) (p1 : Int32) : ctI l (dC, dI) cy yX10_turn cX10_turn 3 .int 2 81 0 0 Unit [.ref h0, .int p1] [(h0, .inr (10, [.ref b0, .ref b1, .ref h1, .ref b2, .ref b3, .ref b4, .ref b5, .ref b6, .ref b7, .int 0])), (h1, .inr (7, [.ref b8, .ref b9, .ref b10, .int 0, .int 0, .int 10, .int 150, .int 2, .int 0, .int 0]))] (fun r _ => r = F_turn p1) (fun u => []) := by
  refine ctI_of (by decide) (Nat.le_of_ble_eq_true rfl) (fun p e s m below meth c A ls Q hx hb hml hts hown hE hP hD hA hl ret => ?_)
  have hown : s.vm.findClass RX10 = some m.cls := hown
  have hS : va_S A s.heap s.heap [] := va_S.rf
  have hl : lv_has ls 3 [(0, .ref h0), (1, .int p1)] := hl
  refine lv_aload_n hx hb dX10_turn_0 rfl (lv_at hl 0 rfl) ?_
  refine va_get (D := (dC, dI)) (ci := 10) (v := .ref h1) (C := RX10) (T := TX10) (N := 10) hx hb hts inB_10 hown hE.1 hP 0 rfl rfl 2 (by decide) (hts _ k_493) (fun _ h9 => h9) rfl dX10_turn_1 ?_
  refine lv_iload_n hx hb dX10_turn_4 rfl (lv_at hl 1 rfl) ?_
  refine caVi (n := 1) (wr := [(h0, .inr (10, [.ref b0, .ref b1, .ref h1, .ref b2, .ref b3, .ref b4, .ref b5, .ref b6, .ref b7, .int 0]))]) (rest := []) hx hb hml hown hts hE hP hD hS hA (cnX7_hasCoat_1 l dC dI cy h1 b8 b9 b10 p1) k_848 k_315 k_316 k_104 k_317 (by decide +kernel) ⟨Nat.le_of_ble_eq_true rfl, Nat.le_of_ble_eq_true rfl⟩ [1] [0] rfl rfl rfl (by decide) (by decide) (by decide) 0 7 rfl rfl rfl hl.1 rfl (Nat.le_of_ble_eq_true rfl) dX10_turn_5 ⟨Nat.le_of_ble_eq_true rfl, Nat.le_of_ble_eq_true rfl⟩ (fun rr u H locs hw hP hD hS => ?_)
  have hP : va_P (dC, dI) vwCl [(h0, .inr (10, [.ref b0, .ref b1, .ref h1, .ref b2, .ref b3, .ref b4, .ref b5, .ref b6, .ref b7, .int 0])), (h1, .inr (7, [.ref b8, .ref b9, .ref b10, .int 0, .int 0, .int 10, .int 150, .int 2, .int 0, .int 0]))] H := hP
  have hD : va_D A [(h0, .inr (10, [.ref b0, .ref b1, .ref h1, .ref b2, .ref b3, .ref b4, .ref b5, .ref b6, .ref b7, .int 0])), (h1, .inr (7, [.ref b8, .ref b9, .ref b10, .int 0, .int 0, .int 10, .int 150, .int 2, .int 0, .int 0]))] := hD
  refine tI (y := 0) hw ?_
  refine lv_if_eq (tgt := 23) hx hb dX10_turn_8 (by decide) (fun _ => ?_) (fun c0 => absurd (by decide) c0)
  refine lv_iconst (v := (-1)) hx hb dX10_turn_23 (by decide) ?_
  exact ret (-1) () _ _ _ _ _ _ rfl (pt_X10_turn_244 p1) (hP.sub [] rfl) (hD.sub [] (by decide) rfl) hS dX10_turn_24 (Nat.le_of_ble_eq_true rfl) (Nat.le_of_ble_eq_true rfl)
theorem pt_X11_turn_245 (p1 : Int32) : ((-1) : Int32) = F_turn p1 := by
  unfold F_turn
  (repeat' split)
  all_goals first | rfl | assumption | (exfalso; simp only [fa_lt, fa_le, fa_eq, tl_m1] at *; omega) | (simp only [fa_lt, fa_le, fa_eq, tl_m1] at *; omega)
set_option maxHeartbeats 4000000 in
set_option maxRecDepth 100000 in
theorem cnX11_turn_1 (l : Launch) (dC : Nat → ClassId) (dI : Nat → Nat → Nat) (cy : Nat → ClassId) (h0 : Nat) (r : Nat → Nat) (p1 : Int32) : ctI l (dC, dI) cy yX11_turn cX11_turn 3 .int 3 103 0 0 Unit [.ref h0, .int p1] [(h0, .inr (11, mFs r mv0))] (fun r _ => r = F_turn p1) (fun u => []) := by
  refine ctI_of (by decide) (Nat.le_of_ble_eq_true rfl) (fun p e s m below meth c A ls Q hx hb hml hts hown hE hP hD hA hl ret => ?_)
  have hown : s.vm.findClass RX11 = some m.cls := hown
  have hS : va_S A s.heap s.heap [] := va_S.rf
  have hl : lv_has ls 3 [(0, .ref h0), (1, .int p1)] := hl
  refine lv_aload_n hx hb dX11_turn_0 rfl (lv_at hl 0 rfl) ?_
  refine lv_iload_n hx hb dX11_turn_1 rfl (lv_at hl 1 rfl) ?_
  refine caVi (n := 1) (wr := []) (rest := []) hx hb hml hown hts hE hP hD hS hA (cnX11_isCoat_1 l dC dI cy h0 r p1) k_1771 k_1773 k_75 k_114 k_1774 (by decide +kernel) ⟨Nat.le_of_ble_eq_true rfl, Nat.le_of_ble_eq_true rfl⟩ [0] [] rfl rfl rfl (by decide) (by decide) (by decide) 0 11 rfl rfl rfl hl.1 rfl (Nat.le_of_ble_eq_true rfl) dX11_turn_2 ⟨Nat.le_of_ble_eq_true rfl, Nat.le_of_ble_eq_true rfl⟩ (fun rr u H locs hw hP hD hS => ?_)
  have hP : va_P (dC, dI) vwCl [(h0, .inr (11, mFs r mv0))] H := hP
  have hD : va_D A [(h0, .inr (11, mFs r mv0))] := hD
  refine tI (y := 0) hw ?_
  refine lv_if_eq (tgt := 23) hx hb dX11_turn_5 (by decide) (fun _ => ?_) (fun c0 => absurd (by decide) c0)
  refine lv_iconst (v := (-1)) hx hb dX11_turn_23 (by decide) ?_
  exact ret (-1) () _ _ _ _ _ _ rfl (pt_X11_turn_245 p1) (hP.sub [] rfl) (hD.sub [] (by decide) rfl) hS dX11_turn_24 (Nat.le_of_ble_eq_true rfl) (Nat.le_of_ble_eq_true rfl)
set_option maxHeartbeats 4000000 in
set_option maxRecDepth 100000 in
theorem cnX5_stepBack_1 (l : Launch) (dC : Nat → ClassId) (dI : Nat → Nat → Nat) (cy : Nat → ClassId) (h0 : Nat) (b0 : Nat) (b1 : Nat) (b2 : Nat) : ctI l (dC, dI) cy yX5_stepBack cX5_stepBack 1 .boolean 1 60 0 0 Unit [.ref h0] [(h0, .inr (5, [.ref b0, .ref b1, .ref b2, .int 0, .int 0, .int 0, .int 0]))] (fun r _ => r = 0) (fun u => [(h0, .inr (5, [.ref b0, .ref b1, .ref b2, .int 0, .int 0, .int 0, .int 0]))]) := by
  refine ctI_of (by decide) (Nat.le_of_ble_eq_true rfl) (fun p e s m below meth c A ls Q hx hb hml hts hown hE hP hD hA hl ret => ?_)
  have hown : s.vm.findClass RX5 = some m.cls := hown
  have hS : va_S A s.heap s.heap [] := va_S.rf
  have hl : lv_has ls 1 [(0, .ref h0)] := hl
  refine lv_aload_n hx hb dX5_stepBack_0 rfl (lv_at hl 0 rfl) ?_
  refine va_get (D := (dC, dI)) (ci := 5) (v := .int 0) (C := RX5) (T := TX5) (N := 7) hx hb hts inB_5 hown hE.1 hP 0 rfl rfl 5 (by decide) (hts _ k_343) (fun _ h9 => h9) rfl dX5_stepBack_1 ?_
  refine lv_if_ne (tgt := 9) hx hb dX5_stepBack_4 (by decide) (fun c0 => absurd (by decide) c0) (fun _ => ?_)
  refine lv_iconst (v := 0) hx hb dX5_stepBack_7 (by decide) ?_
  exact ret 0 () _ _ _ _ _ _ rfl rfl (hP.sub [0] rfl) (hD.sub [0] (by decide) rfl) hS dX5_stepBack_8 (Nat.le_of_ble_eq_true rfl) (Nat.le_of_ble_eq_true rfl)
theorem pt_X10_undo_246 : (0 : Int32) = F_undo  := by
  unfold F_undo
  (repeat' split)
  all_goals first | rfl | assumption | (exfalso; simp only [fa_lt, fa_le, fa_eq, tl_0] at *; omega) | (simp only [fa_lt, fa_le, fa_eq, tl_0] at *; omega)
set_option maxHeartbeats 4000000 in
set_option maxRecDepth 100000 in
theorem cnX10_undo_1 (l : Launch) (dC : Nat → ClassId) (dI : Nat → Nat → Nat) (cy : Nat → ClassId) (h0 : Nat) (h1 : Nat) (b0 : Nat) (b1 : Nat) (b2 : Nat) (b3 : Nat) (b4 : Nat) (b5 : Nat) (b6 : Nat) (b7 : Nat) (b8 : Nat) (b9 : Nat) : ctI l (dC, dI) cy yX10_undo cX10_undo 1 .boolean 2 80 0 0 Unit [.ref h0] [(h0, .inr (10, [.ref b0, .ref b1, .ref b2, .ref b3, .ref h1, .ref b4, .ref b5, .ref b6, .ref b7, .int 0])), (h1, .inr (5, [.ref b3, .ref b8, .ref b9, .int 0, .int 0, .int 0, .int 0]))] (fun r _ => r = F_undo ) (fun u => []) := by
  refine ctI_of (by decide) (Nat.le_of_ble_eq_true rfl) (fun p e s m below meth c A ls Q hx hb hml hts hown hE hP hD hA hl ret => ?_)
  have hown : s.vm.findClass RX10 = some m.cls := hown
  have hS : va_S A s.heap s.heap [] := va_S.rf
  have hl : lv_has ls 1 [(0, .ref h0)] := hl
  refine lv_aload_n hx hb dX10_undo_0 rfl (lv_at hl 0 rfl) ?_
  refine va_get (D := (dC, dI)) (ci := 10) (v := .ref h1) (C := RX10) (T := TX10) (N := 10) hx hb hts inB_10 hown hE.1 hP 0 rfl rfl 4 (by decide) (hts _ k_495) (fun _ h9 => h9) rfl dX10_undo_1 ?_
  refine caVi (n := 0) (wr := [(h0, .inr (10, [.ref b0, .ref b1, .ref b2, .ref b3, .ref h1, .ref b4, .ref b5, .ref b6, .ref b7, .int 0]))]) (rest := []) hx hb hml hown hts hE hP hD hS hA (cnX5_stepBack_1 l dC dI cy h1 b3 b8 b9) k_921 k_922 k_923 k_107 k_924 (by decide +kernel) ⟨Nat.le_of_ble_eq_true rfl, Nat.le_of_ble_eq_true rfl⟩ [1] [0] rfl rfl rfl (by decide) (by decide) (by decide) 0 5 rfl rfl rfl hl.1 rfl (Nat.le_of_ble_eq_true rfl) dX10_undo_4 ⟨Nat.le_of_ble_eq_true rfl, Nat.le_of_ble_eq_true rfl⟩ (fun rr u H locs hw hP hD hS => ?_)
  have hP : va_P (dC, dI) vwCl [(h0, .inr (10, [.ref b0, .ref b1, .ref b2, .ref b3, .ref h1, .ref b4, .ref b5, .ref b6, .ref b7, .int 0])), (h1, .inr (5, [.ref b3, .ref b8, .ref b9, .int 0, .int 0, .int 0, .int 0]))] H := hP
  have hD : va_D A [(h0, .inr (10, [.ref b0, .ref b1, .ref b2, .ref b3, .ref h1, .ref b4, .ref b5, .ref b6, .ref b7, .int 0])), (h1, .inr (5, [.ref b3, .ref b8, .ref b9, .int 0, .int 0, .int 0, .int 0]))] := hD
  refine tI (y := 0) hw ?_
  exact ret 0 () _ _ _ _ _ _ rfl (pt_X10_undo_246 ) (hP.sub [] rfl) (hD.sub [] (by decide) rfl) hS dX10_undo_7 (Nat.le_of_ble_eq_true rfl) (Nat.le_of_ble_eq_true rfl)
theorem pt_X11_undo_247 : (0 : Int32) = F_undo  := by
  unfold F_undo
  (repeat' split)
  all_goals first | rfl | assumption | (exfalso; simp only [fa_lt, fa_le, fa_eq, tl_0] at *; omega) | (simp only [fa_lt, fa_le, fa_eq, tl_0] at *; omega)
set_option maxHeartbeats 4000000 in
set_option maxRecDepth 100000 in
theorem cnX11_undo_1 (l : Launch) (dC : Nat → ClassId) (dI : Nat → Nat → Nat) (cy : Nat → ClassId) (h0 : Nat) (r : Nat → Nat) : ctI l (dC, dI) cy yX11_undo cX11_undo 1 .boolean 1 60 0 0 Unit [.ref h0] [(h0, .inr (11, mFs r mv0))] (fun r _ => r = F_undo ) (fun u => []) := by
  refine ctI_of (by decide) (Nat.le_of_ble_eq_true rfl) (fun p e s m below meth c A ls Q hx hb hml hts hown hE hP hD hA hl ret => ?_)
  have hown : s.vm.findClass RX11 = some m.cls := hown
  have hS : va_S A s.heap s.heap [] := va_S.rf
  have hl : lv_has ls 1 [(0, .ref h0)] := hl
  refine lv_aload_n hx hb dX11_undo_0 rfl (lv_at hl 0 rfl) ?_
  refine va_get (D := (dC, dI)) (ci := 11) (v := .int 0) (C := RX11) (T := TX11) (N := 79) hx hb hts inB_11 hown hE.1 hP 0 rfl rfl 62 (by decide) (hts _ k_1382) (fun _ h9 => h9) rfl dX11_undo_1 ?_
  refine lv_if_ne (tgt := 9) hx hb dX11_undo_4 (by decide) (fun c0 => absurd (by decide) c0) (fun _ => ?_)
  refine lv_iconst (v := 0) hx hb dX11_undo_7 (by decide) ?_
  exact ret 0 () _ _ _ _ _ _ rfl (pt_X11_undo_247 ) (hP.sub [] rfl) (hD.sub [] (by decide) rfl) hS dX11_undo_8 (Nat.le_of_ble_eq_true rfl) (Nat.le_of_ble_eq_true rfl)
set_option maxHeartbeats 4000000 in
set_option maxRecDepth 100000 in
theorem cnX5_stepOn_1 (l : Launch) (dC : Nat → ClassId) (dI : Nat → Nat → Nat) (cy : Nat → ClassId) (h0 : Nat) (b0 : Nat) (b1 : Nat) (b2 : Nat) : ctI l (dC, dI) cy yX5_stepOn cX5_stepOn 1 .boolean 1 60 0 0 Unit [.ref h0] [(h0, .inr (5, [.ref b0, .ref b1, .ref b2, .int 0, .int 0, .int 0, .int 0]))] (fun r _ => r = 0) (fun u => [(h0, .inr (5, [.ref b0, .ref b1, .ref b2, .int 0, .int 0, .int 0, .int 0]))]) := by
  refine ctI_of (by decide) (Nat.le_of_ble_eq_true rfl) (fun p e s m below meth c A ls Q hx hb hml hts hown hE hP hD hA hl ret => ?_)
  have hown : s.vm.findClass RX5 = some m.cls := hown
  have hS : va_S A s.heap s.heap [] := va_S.rf
  have hl : lv_has ls 1 [(0, .ref h0)] := hl
  refine lv_aload_n hx hb dX5_stepOn_0 rfl (lv_at hl 0 rfl) ?_
  refine va_get (D := (dC, dI)) (ci := 5) (v := .int 0) (C := RX5) (T := TX5) (N := 7) hx hb hts inB_5 hown hE.1 hP 0 rfl rfl 6 (by decide) (hts _ k_345) (fun _ h9 => h9) rfl dX5_stepOn_1 ?_
  refine lv_if_ne (tgt := 9) hx hb dX5_stepOn_4 (by decide) (fun c0 => absurd (by decide) c0) (fun _ => ?_)
  refine lv_iconst (v := 0) hx hb dX5_stepOn_7 (by decide) ?_
  exact ret 0 () _ _ _ _ _ _ rfl rfl (hP.sub [0] rfl) (hD.sub [0] (by decide) rfl) hS dX5_stepOn_8 (Nat.le_of_ble_eq_true rfl) (Nat.le_of_ble_eq_true rfl)
theorem pt_X10_redo_248 : (0 : Int32) = F_redo  := by
  unfold F_redo
  (repeat' split)
  all_goals first | rfl | assumption | (exfalso; simp only [fa_lt, fa_le, fa_eq, tl_0] at *; omega) | (simp only [fa_lt, fa_le, fa_eq, tl_0] at *; omega)
set_option maxHeartbeats 4000000 in
set_option maxRecDepth 100000 in
theorem cnX10_redo_1 (l : Launch) (dC : Nat → ClassId) (dI : Nat → Nat → Nat) (cy : Nat → ClassId) (h0 : Nat) (h1 : Nat) (b0 : Nat) (b1 : Nat) (b2 : Nat) (b3 : Nat) (b4 : Nat) (b5 : Nat) (b6 : Nat) (b7 : Nat) (b8 : Nat) (b9 : Nat) : ctI l (dC, dI) cy yX10_redo cX10_redo 1 .boolean 2 80 0 0 Unit [.ref h0] [(h0, .inr (10, [.ref b0, .ref b1, .ref b2, .ref b3, .ref h1, .ref b4, .ref b5, .ref b6, .ref b7, .int 0])), (h1, .inr (5, [.ref b3, .ref b8, .ref b9, .int 0, .int 0, .int 0, .int 0]))] (fun r _ => r = F_redo ) (fun u => []) := by
  refine ctI_of (by decide) (Nat.le_of_ble_eq_true rfl) (fun p e s m below meth c A ls Q hx hb hml hts hown hE hP hD hA hl ret => ?_)
  have hown : s.vm.findClass RX10 = some m.cls := hown
  have hS : va_S A s.heap s.heap [] := va_S.rf
  have hl : lv_has ls 1 [(0, .ref h0)] := hl
  refine lv_aload_n hx hb dX10_redo_0 rfl (lv_at hl 0 rfl) ?_
  refine va_get (D := (dC, dI)) (ci := 10) (v := .ref h1) (C := RX10) (T := TX10) (N := 10) hx hb hts inB_10 hown hE.1 hP 0 rfl rfl 4 (by decide) (hts _ k_495) (fun _ h9 => h9) rfl dX10_redo_1 ?_
  refine caVi (n := 0) (wr := [(h0, .inr (10, [.ref b0, .ref b1, .ref b2, .ref b3, .ref h1, .ref b4, .ref b5, .ref b6, .ref b7, .int 0]))]) (rest := []) hx hb hml hown hts hE hP hD hS hA (cnX5_stepOn_1 l dC dI cy h1 b3 b8 b9) k_933 k_934 k_935 k_107 k_936 (by decide +kernel) ⟨Nat.le_of_ble_eq_true rfl, Nat.le_of_ble_eq_true rfl⟩ [1] [0] rfl rfl rfl (by decide) (by decide) (by decide) 0 5 rfl rfl rfl hl.1 rfl (Nat.le_of_ble_eq_true rfl) dX10_redo_4 ⟨Nat.le_of_ble_eq_true rfl, Nat.le_of_ble_eq_true rfl⟩ (fun rr u H locs hw hP hD hS => ?_)
  have hP : va_P (dC, dI) vwCl [(h0, .inr (10, [.ref b0, .ref b1, .ref b2, .ref b3, .ref h1, .ref b4, .ref b5, .ref b6, .ref b7, .int 0])), (h1, .inr (5, [.ref b3, .ref b8, .ref b9, .int 0, .int 0, .int 0, .int 0]))] H := hP
  have hD : va_D A [(h0, .inr (10, [.ref b0, .ref b1, .ref b2, .ref b3, .ref h1, .ref b4, .ref b5, .ref b6, .ref b7, .int 0])), (h1, .inr (5, [.ref b3, .ref b8, .ref b9, .int 0, .int 0, .int 0, .int 0]))] := hD
  refine tI (y := 0) hw ?_
  exact ret 0 () _ _ _ _ _ _ rfl (pt_X10_redo_248 ) (hP.sub [] rfl) (hD.sub [] (by decide) rfl) hS dX10_redo_7 (Nat.le_of_ble_eq_true rfl) (Nat.le_of_ble_eq_true rfl)
theorem pt_X11_redo_249 : (0 : Int32) = F_redo  := by
  unfold F_redo
  (repeat' split)
  all_goals first | rfl | assumption | (exfalso; simp only [fa_lt, fa_le, fa_eq, tl_0] at *; omega) | (simp only [fa_lt, fa_le, fa_eq, tl_0] at *; omega)
set_option maxHeartbeats 4000000 in
set_option maxRecDepth 100000 in
theorem cnX11_redo_1 (l : Launch) (dC : Nat → ClassId) (dI : Nat → Nat → Nat) (cy : Nat → ClassId) (h0 : Nat) (r : Nat → Nat) : ctI l (dC, dI) cy yX11_redo cX11_redo 1 .boolean 1 60 0 0 Unit [.ref h0] [(h0, .inr (11, mFs r mv0))] (fun r _ => r = F_redo ) (fun u => []) := by
  refine ctI_of (by decide) (Nat.le_of_ble_eq_true rfl) (fun p e s m below meth c A ls Q hx hb hml hts hown hE hP hD hA hl ret => ?_)
  have hown : s.vm.findClass RX11 = some m.cls := hown
  have hS : va_S A s.heap s.heap [] := va_S.rf
  have hl : lv_has ls 1 [(0, .ref h0)] := hl
  refine lv_aload_n hx hb dX11_redo_0 rfl (lv_at hl 0 rfl) ?_
  refine va_get (D := (dC, dI)) (ci := 11) (v := .int 0) (C := RX11) (T := TX11) (N := 79) hx hb hts inB_11 hown hE.1 hP 0 rfl rfl 63 (by decide) (hts _ k_1383) (fun _ h9 => h9) rfl dX11_redo_1 ?_
  refine lv_if_ne (tgt := 9) hx hb dX11_redo_4 (by decide) (fun c0 => absurd (by decide) c0) (fun _ => ?_)
  refine lv_iconst (v := 0) hx hb dX11_redo_7 (by decide) ?_
  exact ret 0 () _ _ _ _ _ _ rfl (pt_X11_redo_249 ) (hP.sub [] rfl) (hD.sub [] (by decide) rfl) hS dX11_redo_8 (Nat.le_of_ble_eq_true rfl) (Nat.le_of_ble_eq_true rfl)
theorem pt_X10_will_250 (p1 : Int32) (p2 : Int32) (p3 : Int32) : ((-2) : Int32) = F_will p1 p2 p3 := by
  unfold F_will
  (repeat' split)
  all_goals first | rfl | assumption | (exfalso; simp only [fa_lt, fa_le, fa_eq, tl_m2] at *; omega) | (simp only [fa_lt, fa_le, fa_eq, tl_m2] at *; omega)
set_option maxHeartbeats 4000000 in
set_option maxRecDepth 100000 in
theorem cnX10_will_1 (l : Launch) (dC : Nat → ClassId) (dI : Nat → Nat → Nat) (cy : Nat → ClassId) (h0 : Nat) (h1 : Nat) (b0 : Nat) (b1 : Nat) (b2 : Nat) (b3 : Nat) (b4 : Nat) (b5 : Nat) (b6 : Nat) (b7 : Nat) (b8 : Nat) (b9 : Nat) (b10 : Nat) (p1 : Int32) (p2 : Int32) (p3 : Int32) : ctI l (dC, dI) cy yX10_will cX10_will 4 .int 2 81 0 0 Unit [.ref h0, .int p1, .int p2, .int p3] [(h0, .inr (10, [.ref b0, .ref b1, .ref h1, .ref b2, .ref b3, .ref b4, .ref b5, .ref b6, .ref b7, .int 0])), (h1, .inr (7, [.ref b8, .ref b9, .ref b10, .int 0, .int 0, .int 10, .int 150, .int 2, .int 0, .int 0]))] (fun r _ => r = F_will p1 p2 p3) (fun u => []) := by
  refine ctI_of (by decide) (Nat.le_of_ble_eq_true rfl) (fun p e s m below meth c A ls Q hx hb hml hts hown hE hP hD hA hl ret => ?_)
  have hown : s.vm.findClass RX10 = some m.cls := hown
  have hS : va_S A s.heap s.heap [] := va_S.rf
  have hl : lv_has ls 4 [(0, .ref h0), (1, .int p1), (2, .int p2), (3, .int p3)] := hl
  refine lv_aload_n hx hb dX10_will_0 rfl (lv_at hl 0 rfl) ?_
  refine va_get (D := (dC, dI)) (ci := 10) (v := .ref h1) (C := RX10) (T := TX10) (N := 10) hx hb hts inB_10 hown hE.1 hP 0 rfl rfl 2 (by decide) (hts _ k_493) (fun _ h9 => h9) rfl dX10_will_1 ?_
  refine lv_iload_n hx hb dX10_will_4 rfl (lv_at hl 1 rfl) ?_
  refine caVi (n := 1) (wr := [(h0, .inr (10, [.ref b0, .ref b1, .ref h1, .ref b2, .ref b3, .ref b4, .ref b5, .ref b6, .ref b7, .int 0]))]) (rest := []) hx hb hml hown hts hE hP hD hS hA (cnX7_hasMan_1 l dC dI cy h1 b8 b9 b10 p1) k_802 k_307 k_308 k_104 k_309 (by decide +kernel) ⟨Nat.le_of_ble_eq_true rfl, Nat.le_of_ble_eq_true rfl⟩ [1] [0] rfl rfl rfl (by decide) (by decide) (by decide) 0 7 rfl rfl rfl hl.1 rfl (Nat.le_of_ble_eq_true rfl) dX10_will_5 ⟨Nat.le_of_ble_eq_true rfl, Nat.le_of_ble_eq_true rfl⟩ (fun rr u H locs hw hP hD hS => ?_)
  have hP : va_P (dC, dI) vwCl [(h0, .inr (10, [.ref b0, .ref b1, .ref h1, .ref b2, .ref b3, .ref b4, .ref b5, .ref b6, .ref b7, .int 0])), (h1, .inr (7, [.ref b8, .ref b9, .ref b10, .int 0, .int 0, .int 10, .int 150, .int 2, .int 0, .int 0]))] H := hP
  have hD : va_D A [(h0, .inr (10, [.ref b0, .ref b1, .ref h1, .ref b2, .ref b3, .ref b4, .ref b5, .ref b6, .ref b7, .int 0])), (h1, .inr (7, [.ref b8, .ref b9, .ref b10, .int 0, .int 0, .int 10, .int 150, .int 2, .int 0, .int 0]))] := hD
  refine tI (y := 0) hw ?_
  refine lv_if_eq (tgt := 30) hx hb dX10_will_8 (by decide) (fun _ => ?_) (fun c0 => absurd (by decide) c0)
  refine lv_bipush (v := (-2)) hx hb dX10_will_30 (by decide) ?_
  exact ret (-2) () _ _ _ _ _ _ rfl (pt_X10_will_250 p1 p2 p3) (hP.sub [] rfl) (hD.sub [] (by decide) rfl) hS dX10_will_32 (Nat.le_of_ble_eq_true rfl) (Nat.le_of_ble_eq_true rfl)
theorem pt_X11_will_251 (p1 : Int32) (p2 : Int32) (p3 : Int32) : ((-2) : Int32) = F_will p1 p2 p3 := by
  unfold F_will
  (repeat' split)
  all_goals first | rfl | assumption | (exfalso; simp only [fa_lt, fa_le, fa_eq, tl_m2] at *; omega) | (simp only [fa_lt, fa_le, fa_eq, tl_m2] at *; omega)
set_option maxHeartbeats 4000000 in
set_option maxRecDepth 100000 in
theorem cnX11_will_1 (l : Launch) (dC : Nat → ClassId) (dI : Nat → Nat → Nat) (cy : Nat → ClassId) (h0 : Nat) (r : Nat → Nat) (p1 : Int32) (p2 : Int32) (p3 : Int32) : ctI l (dC, dI) cy yX11_will cX11_will 5 .int 3 103 0 0 Unit [.ref h0, .int p1, .int p2, .int p3] [(h0, .inr (11, mFs r mv0))] (fun r _ => r = F_will p1 p2 p3) (fun u => []) := by
  refine ctI_of (by decide) (Nat.le_of_ble_eq_true rfl) (fun p e s m below meth c A ls Q hx hb hml hts hown hE hP hD hA hl ret => ?_)
  have hown : s.vm.findClass RX11 = some m.cls := hown
  have hS : va_S A s.heap s.heap [] := va_S.rf
  have hl : lv_has ls 5 [(0, .ref h0), (1, .int p1), (2, .int p2), (3, .int p3)] := hl
  refine lv_aload_n hx hb dX11_will_0 rfl (lv_at hl 0 rfl) ?_
  refine lv_iload_n hx hb dX11_will_1 rfl (lv_at hl 1 rfl) ?_
  refine caVi (n := 1) (wr := []) (rest := []) hx hb hml hown hts hE hP hD hS hA (cnX11_isMan_1 l dC dI cy h0 r p1) k_1732 k_1734 k_70 k_114 k_1735 (by decide +kernel) ⟨Nat.le_of_ble_eq_true rfl, Nat.le_of_ble_eq_true rfl⟩ [0] [] rfl rfl rfl (by decide) (by decide) (by decide) 0 11 rfl rfl rfl hl.1 rfl (Nat.le_of_ble_eq_true rfl) dX11_will_2 ⟨Nat.le_of_ble_eq_true rfl, Nat.le_of_ble_eq_true rfl⟩ (fun rr u H locs hw hP hD hS => ?_)
  have hP : va_P (dC, dI) vwCl [(h0, .inr (11, mFs r mv0))] H := hP
  have hD : va_D A [(h0, .inr (11, mFs r mv0))] := hD
  refine tI (y := 0) hw ?_
  refine lv_if_eq (tgt := 27) hx hb dX11_will_5 (by decide) (fun _ => ?_) (fun c0 => absurd (by decide) c0)
  refine lv_bipush (v := (-2)) hx hb dX11_will_27 (by decide) ?_
  exact ret (-2) () _ _ _ _ _ _ rfl (pt_X11_will_251 p1 p2 p3) (hP.sub [] rfl) (hD.sub [] (by decide) rfl) hS dX11_will_29 (Nat.le_of_ble_eq_true rfl) (Nat.le_of_ble_eq_true rfl)
theorem pt_X10_out_252 (p1 : Int32) : ((-1) : Int32) = F_out p1 := by
  unfold F_out
  (repeat' split)
  all_goals first | rfl | assumption | (exfalso; simp only [fa_lt, fa_le, fa_eq, tl_m1] at *; omega) | (simp only [fa_lt, fa_le, fa_eq, tl_m1] at *; omega)
set_option maxHeartbeats 4000000 in
set_option maxRecDepth 100000 in
theorem cnX10_out_1 (l : Launch) (dC : Nat → ClassId) (dI : Nat → Nat → Nat) (cy : Nat → ClassId) (h0 : Nat) (h1 : Nat) (b0 : Nat) (b1 : Nat) (b2 : Nat) (b3 : Nat) (b4 : Nat) (b5 : Nat) (b6 : Nat) (b7 : Nat) (b8 : Nat) (b9 : Nat) (b10 : Nat) (p1 : Int32) : ctI l (dC, dI) cy yX10_out cX10_out 2 .int 2 81 0 0 Unit [.ref h0, .int p1] [(h0, .inr (10, [.ref b0, .ref b1, .ref h1, .ref b2, .ref b3, .ref b4, .ref b5, .ref b6, .ref b7, .int 0])), (h1, .inr (7, [.ref b8, .ref b9, .ref b10, .int 0, .int 0, .int 10, .int 150, .int 2, .int 0, .int 0]))] (fun r _ => r = F_out p1) (fun u => []) := by
  refine ctI_of (by decide) (Nat.le_of_ble_eq_true rfl) (fun p e s m below meth c A ls Q hx hb hml hts hown hE hP hD hA hl ret => ?_)
  have hown : s.vm.findClass RX10 = some m.cls := hown
  have hS : va_S A s.heap s.heap [] := va_S.rf
  have hl : lv_has ls 2 [(0, .ref h0), (1, .int p1)] := hl
  refine lv_aload_n hx hb dX10_out_0 rfl (lv_at hl 0 rfl) ?_
  refine va_get (D := (dC, dI)) (ci := 10) (v := .ref h1) (C := RX10) (T := TX10) (N := 10) hx hb hts inB_10 hown hE.1 hP 0 rfl rfl 2 (by decide) (hts _ k_493) (fun _ h9 => h9) rfl dX10_out_1 ?_
  refine lv_iload_n hx hb dX10_out_4 rfl (lv_at hl 1 rfl) ?_
  refine caVi (n := 1) (wr := [(h0, .inr (10, [.ref b0, .ref b1, .ref h1, .ref b2, .ref b3, .ref b4, .ref b5, .ref b6, .ref b7, .int 0]))]) (rest := []) hx hb hml hown hts hE hP hD hS hA (cnX7_hasMan_1 l dC dI cy h1 b8 b9 b10 p1) k_802 k_307 k_308 k_104 k_309 (by decide +kernel) ⟨Nat.le_of_ble_eq_true rfl, Nat.le_of_ble_eq_true rfl⟩ [1] [0] rfl rfl rfl (by decide) (by decide) (by decide) 0 7 rfl rfl rfl hl.1 rfl (Nat.le_of_ble_eq_true rfl) dX10_out_5 ⟨Nat.le_of_ble_eq_true rfl, Nat.le_of_ble_eq_true rfl⟩ (fun rr u H locs hw hP hD hS => ?_)
  have hP : va_P (dC, dI) vwCl [(h0, .inr (10, [.ref b0, .ref b1, .ref h1, .ref b2, .ref b3, .ref b4, .ref b5, .ref b6, .ref b7, .int 0])), (h1, .inr (7, [.ref b8, .ref b9, .ref b10, .int 0, .int 0, .int 10, .int 150, .int 2, .int 0, .int 0]))] H := hP
  have hD : va_D A [(h0, .inr (10, [.ref b0, .ref b1, .ref h1, .ref b2, .ref b3, .ref b4, .ref b5, .ref b6, .ref b7, .int 0])), (h1, .inr (7, [.ref b8, .ref b9, .ref b10, .int 0, .int 0, .int 10, .int 150, .int 2, .int 0, .int 0]))] := hD
  refine tI (y := 0) hw ?_
  refine lv_if_eq (tgt := 22) hx hb dX10_out_8 (by decide) (fun _ => ?_) (fun c0 => absurd (by decide) c0)
  refine lv_iconst (v := (-1)) hx hb dX10_out_22 (by decide) ?_
  exact ret (-1) () _ _ _ _ _ _ rfl (pt_X10_out_252 p1) (hP.sub [] rfl) (hD.sub [] (by decide) rfl) hS dX10_out_23 (Nat.le_of_ble_eq_true rfl) (Nat.le_of_ble_eq_true rfl)
theorem pt_X11_out_253 (p1 : Int32) : ((-1) : Int32) = F_out p1 := by
  unfold F_out
  (repeat' split)
  all_goals first | rfl | assumption | (exfalso; simp only [fa_lt, fa_le, fa_eq, tl_m1] at *; omega) | (simp only [fa_lt, fa_le, fa_eq, tl_m1] at *; omega)
set_option maxHeartbeats 4000000 in
set_option maxRecDepth 100000 in
theorem cnX11_out_1 (l : Launch) (dC : Nat → ClassId) (dI : Nat → Nat → Nat) (cy : Nat → ClassId) (h0 : Nat) (r : Nat → Nat) (p1 : Int32) : ctI l (dC, dI) cy yX11_out cX11_out 3 .int 3 103 0 0 Unit [.ref h0, .int p1] [(h0, .inr (11, mFs r mv0))] (fun r _ => r = F_out p1) (fun u => []) := by
  refine ctI_of (by decide) (Nat.le_of_ble_eq_true rfl) (fun p e s m below meth c A ls Q hx hb hml hts hown hE hP hD hA hl ret => ?_)
  have hown : s.vm.findClass RX11 = some m.cls := hown
  have hS : va_S A s.heap s.heap [] := va_S.rf
  have hl : lv_has ls 3 [(0, .ref h0), (1, .int p1)] := hl
  refine lv_aload_n hx hb dX11_out_0 rfl (lv_at hl 0 rfl) ?_
  refine lv_iload_n hx hb dX11_out_1 rfl (lv_at hl 1 rfl) ?_
  refine caVi (n := 1) (wr := []) (rest := []) hx hb hml hown hts hE hP hD hS hA (cnX11_isMan_1 l dC dI cy h0 r p1) k_1732 k_1734 k_70 k_114 k_1735 (by decide +kernel) ⟨Nat.le_of_ble_eq_true rfl, Nat.le_of_ble_eq_true rfl⟩ [0] [] rfl rfl rfl (by decide) (by decide) (by decide) 0 11 rfl rfl rfl hl.1 rfl (Nat.le_of_ble_eq_true rfl) dX11_out_2 ⟨Nat.le_of_ble_eq_true rfl, Nat.le_of_ble_eq_true rfl⟩ (fun rr u H locs hw hP hD hS => ?_)
  have hP : va_P (dC, dI) vwCl [(h0, .inr (11, mFs r mv0))] H := hP
  have hD : va_D A [(h0, .inr (11, mFs r mv0))] := hD
  refine tI (y := 0) hw ?_
  refine lv_if_ne (tgt := 10) hx hb dX11_out_5 (by decide) (fun c0 => absurd (by decide) c0) (fun _ => ?_)
  refine lv_iconst (v := (-1)) hx hb dX11_out_8 (by decide) ?_
  exact ret (-1) () _ _ _ _ _ _ rfl (pt_X11_out_253 p1) (hP.sub [] rfl) (hD.sub [] (by decide) rfl) hS dX11_out_9 (Nat.le_of_ble_eq_true rfl) (Nat.le_of_ble_eq_true rfl)
set_option maxHeartbeats 4000000 in
set_option maxRecDepth 100000 in
theorem cnX1_fittedMen_1 (l : Launch) (dC : Nat → ClassId) (dI : Nat → Nat → Nat) (cy : Nat → ClassId) (h0 : Nat) (h1 : Nat) (b0 : Nat) (b1 : Nat) (b2 : Nat) (b3 : Nat) : ctI l (dC, dI) cy yX1_fittedMen cX1_fittedMen 3 .int 1 60 0 0 Unit [.ref h0] [(h0, .inr (1, [.ref h1, .ref b0])), (h1, .inr (7, [.ref b1, .ref b2, .ref b3, .int 0, .int 0, .int 10, .int 150, .int 2, .int 0, .int 0]))] (fun r _ => r = 0) (fun u => [(h0, .inr (1, [.ref h1, .ref b0])), (h1, .inr (7, [.ref b1, .ref b2, .ref b3, .int 0, .int 0, .int 10, .int 150, .int 2, .int 0, .int 0]))]) := by
  refine ctI_of (by decide) (Nat.le_of_ble_eq_true rfl) (fun p e s m below meth c A ls Q hx hb hml hts hown hE hP hD hA hl ret => ?_)
  have hown : s.vm.findClass RX1 = some m.cls := hown
  have hS : va_S A s.heap s.heap [] := va_S.rf
  have hl : lv_has ls 3 [(0, .ref h0)] := hl
  refine lv_iconst (v := 0) hx hb dX1_fittedMen_0 (by decide) ?_
  refine lv_istore_n (lv' := [(1, .int 0), (0, .ref h0)]) hx hb dX1_fittedMen_1 rfl hl (by decide) rfl (fun ls hl => ?_)
  refine lv_iconst (v := 0) hx hb dX1_fittedMen_2 (by decide) ?_
  refine lv_istore_n (lv' := [(2, .int 0), (1, .int 0), (0, .ref h0)]) hx hb dX1_fittedMen_3 rfl hl (by decide) rfl (fun ls hl => ?_)
  refine lv_iload_n hx hb dX1_fittedMen_4 rfl (lv_at hl 0 rfl) ?_
  refine lv_aload_n hx hb dX1_fittedMen_5 rfl (lv_at hl 2 rfl) ?_
  refine va_get (D := (dC, dI)) (ci := 1) (v := .ref h1) (C := RX1) (T := TX1) (N := 2) hx hb hts inB_1 hown hE.1 hP 0 rfl rfl 0 (by decide) (hts _ k_318) (fun _ h9 => h9) rfl dX1_fittedMen_6 ?_
  refine va_getN (D := (dC, dI)) (ci := 7) (v := .int 0) (C := RX7) (T := TX7) (N := 10) hx hb hts inB_7 hown hE.1 hP 1 rfl rfl 3 (by decide) (va_Nw.use rfl (hE.2 _ k_219)) (fun _ h9 => h9) rfl dX1_fittedMen_9 ?_
  refine lv_icmp_ge (tgt := 40) hx hb dX1_fittedMen_12 (by decide) (fun _ => ?_) (fun c0 => absurd (by decide) c0)
  refine lv_iload_n hx hb dX1_fittedMen_40 rfl (lv_at hl 1 rfl) ?_
  exact ret 0 () _ _ _ _ _ _ rfl rfl (hP.sub [0, 1] rfl) (hD.sub [0, 1] (by decide) rfl) hS dX1_fittedMen_41 (Nat.le_of_ble_eq_true rfl) (Nat.le_of_ble_eq_true rfl)
theorem pt_X10_fitted_254 : (0 : Int32) = F_fitted  := by
  unfold F_fitted
  (repeat' split)
  all_goals first | rfl | assumption | (exfalso; simp only [fa_lt, fa_le, fa_eq, tl_0] at *; omega) | (simp only [fa_lt, fa_le, fa_eq, tl_0] at *; omega)
set_option maxHeartbeats 4000000 in
set_option maxRecDepth 100000 in
theorem cnX10_fitted_1 (l : Launch) (dC : Nat → ClassId) (dI : Nat → Nat → Nat) (cy : Nat → ClassId) (h0 : Nat) (h1 : Nat) (h2 : Nat) (b0 : Nat) (b1 : Nat) (b2 : Nat) (b3 : Nat) (b4 : Nat) (b5 : Nat) (b6 : Nat) (b7 : Nat) (b8 : Nat) (b9 : Nat) (b10 : Nat) : ctI l (dC, dI) cy yX10_fitted cX10_fitted 1 .int 2 82 0 0 Unit [.ref h0] [(h0, .inr (10, [.ref b0, .ref b1, .ref h2, .ref h1, .ref b2, .ref b3, .ref b4, .ref b5, .ref b6, .int 0])), (h1, .inr (1, [.ref h2, .ref b7])), (h2, .inr (7, [.ref b8, .ref b9, .ref b10, .int 0, .int 0, .int 10, .int 150, .int 2, .int 0, .int 0]))] (fun r _ => r = F_fitted ) (fun u => []) := by
  refine ctI_of (by decide) (Nat.le_of_ble_eq_true rfl) (fun p e s m below meth c A ls Q hx hb hml hts hown hE hP hD hA hl ret => ?_)
  have hown : s.vm.findClass RX10 = some m.cls := hown
  have hS : va_S A s.heap s.heap [] := va_S.rf
  have hl : lv_has ls 1 [(0, .ref h0)] := hl
  refine lv_aload_n hx hb dX10_fitted_0 rfl (lv_at hl 0 rfl) ?_
  refine va_get (D := (dC, dI)) (ci := 10) (v := .ref h1) (C := RX10) (T := TX10) (N := 10) hx hb hts inB_10 hown hE.1 hP 0 rfl rfl 3 (by decide) (hts _ k_494) (fun _ h9 => h9) rfl dX10_fitted_1 ?_
  refine caVi (n := 0) (wr := [(h0, .inr (10, [.ref b0, .ref b1, .ref h2, .ref h1, .ref b2, .ref b3, .ref b4, .ref b5, .ref b6, .int 0]))]) (rest := []) hx hb hml hown hts hE hP hD hS hA (cnX1_fittedMen_1 l dC dI cy h1 h2 b7 b8 b9 b10) k_963 k_964 k_965 k_106 k_966 (by decide +kernel) ⟨Nat.le_of_ble_eq_true rfl, Nat.le_of_ble_eq_true rfl⟩ [1, 2] [0] rfl rfl rfl (by decide) (by decide) (by decide) 0 1 rfl rfl rfl hl.1 rfl (Nat.le_of_ble_eq_true rfl) dX10_fitted_4 ⟨Nat.le_of_ble_eq_true rfl, Nat.le_of_ble_eq_true rfl⟩ (fun rr u H locs hw hP hD hS => ?_)
  have hP : va_P (dC, dI) vwCl [(h0, .inr (10, [.ref b0, .ref b1, .ref h2, .ref h1, .ref b2, .ref b3, .ref b4, .ref b5, .ref b6, .int 0])), (h1, .inr (1, [.ref h2, .ref b7])), (h2, .inr (7, [.ref b8, .ref b9, .ref b10, .int 0, .int 0, .int 10, .int 150, .int 2, .int 0, .int 0]))] H := hP
  have hD : va_D A [(h0, .inr (10, [.ref b0, .ref b1, .ref h2, .ref h1, .ref b2, .ref b3, .ref b4, .ref b5, .ref b6, .int 0])), (h1, .inr (1, [.ref h2, .ref b7])), (h2, .inr (7, [.ref b8, .ref b9, .ref b10, .int 0, .int 0, .int 10, .int 150, .int 2, .int 0, .int 0]))] := hD
  refine tI (y := 0) hw ?_
  exact ret 0 () _ _ _ _ _ _ rfl (pt_X10_fitted_254 ) (hP.sub [] rfl) (hD.sub [] (by decide) rfl) hS dX10_fitted_7 (Nat.le_of_ble_eq_true rfl) (Nat.le_of_ble_eq_true rfl)
set_option maxHeartbeats 4000000 in
set_option maxRecDepth 100000 in
theorem cnX11_fittedOnes_2 (l : Launch) (dC : Nat → ClassId) (dI : Nat → Nat → Nat) (cy : Nat → ClassId) (h0 : Nat) (r : Nat → Nat) : ctI l (dC, dI) cy yX11_fittedOnes cX11_fittedOnes 3 .int 1 60 0 0 Unit [.ref h0] [(h0, .inr (11, mFs r mv0))] (fun r _ => r = 0) (fun u => [(h0, .inr (11, mFs r mv0))]) := by
  refine ctI_of (by decide) (Nat.le_of_ble_eq_true rfl) (fun p e s m below meth c A ls Q hx hb hml hts hown hE hP hD hA hl ret => ?_)
  have hown : s.vm.findClass RX11 = some m.cls := hown
  have hS : va_S A s.heap s.heap [] := va_S.rf
  have hl : lv_has ls 3 [(0, .ref h0)] := hl
  refine lv_iconst (v := 0) hx hb dX11_fittedOnes_0 (by decide) ?_
  refine lv_istore_n (lv' := [(1, .int 0), (0, .ref h0)]) hx hb dX11_fittedOnes_1 rfl hl (by decide) rfl (fun ls hl => ?_)
  refine lv_iconst (v := 0) hx hb dX11_fittedOnes_2 (by decide) ?_
  refine lv_istore_n (lv' := [(2, .int 0), (1, .int 0), (0, .ref h0)]) hx hb dX11_fittedOnes_3 rfl hl (by decide) rfl (fun ls hl => ?_)
  refine lv_iload_n hx hb dX11_fittedOnes_4 rfl (lv_at hl 0 rfl) ?_
  refine lv_aload_n hx hb dX11_fittedOnes_5 rfl (lv_at hl 2 rfl) ?_
  refine va_get (D := (dC, dI)) (ci := 11) (v := .int 0) (C := RX11) (T := TX11) (N := 79) hx hb hts inB_11 hown hE.1 hP 0 rfl rfl 48 (by decide) (hts _ k_1368) (fun _ h9 => h9) rfl dX11_fittedOnes_6 ?_
  refine lv_icmp_ge (tgt := 31) hx hb dX11_fittedOnes_9 (by decide) (fun _ => ?_) (fun c0 => absurd (by decide) c0)
  refine lv_iload_n hx hb dX11_fittedOnes_31 rfl (lv_at hl 1 rfl) ?_
  exact ret 0 () _ _ _ _ _ _ rfl rfl (hP.sub [0] rfl) (hD.sub [0] (by decide) rfl) hS dX11_fittedOnes_32 (Nat.le_of_ble_eq_true rfl) (Nat.le_of_ble_eq_true rfl)
theorem pt_X11_fitted_261 : (0 : Int32) = F_fitted  := by
  unfold F_fitted
  (repeat' split)
  all_goals first | rfl | assumption | (exfalso; simp only [fa_lt, fa_le, fa_eq, tl_0] at *; omega) | (simp only [fa_lt, fa_le, fa_eq, tl_0] at *; omega)
set_option maxHeartbeats 4000000 in
set_option maxRecDepth 100000 in
theorem cnX11_fitted_1 (l : Launch) (dC : Nat → ClassId) (dI : Nat → Nat → Nat) (cy : Nat → ClassId) (h0 : Nat) (r : Nat → Nat) : ctI l (dC, dI) cy yX11_fitted cX11_fitted 1 .int 2 82 0 0 Unit [.ref h0] [(h0, .inr (11, mFs r mv0)), ((r 59), .inl (cy 1, 39, .inl zF)), ((r 60), .inl (cy 1, 39, .inl zF))] (fun r _ => r = F_fitted ) (fun u => []) := by
  refine ctI_of (by decide) (Nat.le_of_ble_eq_true rfl) (fun p e s m below meth c A ls Q hx hb hml hts hown hE hP hD hA hl ret => ?_)
  have hown : s.vm.findClass RX11 = some m.cls := hown
  have hS : va_S A s.heap s.heap [] := va_S.rf
  have hl : lv_has ls 1 [(0, .ref h0)] := hl
  refine lv_aload_n hx hb dX11_fitted_0 rfl (lv_at hl 0 rfl) ?_
  refine caVv (n := 0) (wr := []) (rest := []) hx hb hml hown hts hE hP hD hS hA (cnX11_fill_1 l dC dI cy h0 r) k_1739 k_1741 k_71 k_114 k_1742 (by decide +kernel) ⟨Nat.le_of_ble_eq_true rfl, Nat.le_of_ble_eq_true rfl⟩ [0, 1, 2] [] rfl rfl rfl (by decide) (by decide) (by decide) 0 11 rfl rfl rfl hl.1 rfl (Nat.le_of_ble_eq_true rfl) dX11_fitted_1 ⟨Nat.le_of_ble_eq_true rfl, Nat.le_of_ble_eq_true rfl⟩ (fun u H locs hw hP hD hS => ?_)
  have hP : va_P (dC, dI) vwCl [(h0, .inr (11, mFs r mv0)), ((r 59), .inl (cy 1, 39, .inl zF)), ((r 60), .inl (cy 1, 39, .inl zF))] H := hP
  have hD : va_D A [(h0, .inr (11, mFs r mv0)), ((r 59), .inl (cy 1, 39, .inl zF)), ((r 60), .inl (cy 1, 39, .inl zF))] := hD
  refine lv_aload_n hx hb dX11_fitted_4 rfl (lv_at hl 0 rfl) ?_
  refine caVi (n := 0) (wr := [((r 59), .inl (cy 1, 39, .inl zF)), ((r 60), .inl (cy 1, 39, .inl zF))]) (rest := []) hx hb hml hown hts hE hP hD hS hA (cnX11_fittedOnes_2 l dC dI cy h0 r) k_1809 k_1811 k_81 k_114 k_1812 (by decide +kernel) ⟨Nat.le_of_ble_eq_true rfl, Nat.le_of_ble_eq_true rfl⟩ [0] [1, 2] rfl rfl rfl (by decide) (by decide) (by decide) 0 11 rfl rfl rfl hl.1 rfl (Nat.le_of_ble_eq_true rfl) dX11_fitted_5 ⟨Nat.le_of_ble_eq_true rfl, Nat.le_of_ble_eq_true rfl⟩ (fun rr u H locs hw hP hD hS => ?_)
  have hP : va_P (dC, dI) vwCl [((r 59), .inl (cy 1, 39, .inl zF)), ((r 60), .inl (cy 1, 39, .inl zF)), (h0, .inr (11, mFs r mv0))] H := hP
  have hD : va_D A [((r 59), .inl (cy 1, 39, .inl zF)), ((r 60), .inl (cy 1, 39, .inl zF)), (h0, .inr (11, mFs r mv0))] := hD
  refine tI (y := 0) hw ?_
  exact ret 0 () _ _ _ _ _ _ rfl (pt_X11_fitted_261 ) (hP.sub [] rfl) (hD.sub [] (by decide) rfl) hS dX11_fitted_8 (Nat.le_of_ble_eq_true rfl) (Nat.le_of_ble_eq_true rfl)
set_option maxHeartbeats 4000000 in
set_option maxRecDepth 100000 in
theorem cnX0_reckonGains_1 (l : Launch) (dC : Nat → ClassId) (dI : Nat → Nat → Nat) (cy : Nat → ClassId) (h0 : Nat) (h1 : Nat) (b0 : Nat) (b1 : Nat) (b2 : Nat) (b3 : Nat) (b4 : Nat) (b5 : Nat) (b6 : Nat) : ctV l (dC, dI) cy yX0_reckonGains cX0_reckonGains 4 1 60 0 0 Unit [.ref h0] [(h0, .inr (0, [.ref h1, .ref b0, .ref b1, .int 0, .ref b2, .ref b3, .int 0, .int 0])), (h1, .inr (7, [.ref b4, .ref b5, .ref b6, .int 0, .int 0, .int 10, .int 150, .int 2, .int 0, .int 0]))] (fun _ => True) (fun u => [(h0, .inr (0, [.ref h1, .ref b0, .ref b1, .int 0, .ref b2, .ref b3, .int 0, .int 0])), (h1, .inr (7, [.ref b4, .ref b5, .ref b6, .int 0, .int 0, .int 10, .int 150, .int 2, .int 0, .int 0]))]) := by
  refine ctV_of (by decide) (Nat.le_of_ble_eq_true rfl) (fun p e s m below meth c A ls Q hx hb hml hts hown hnm hE hP hD hA hl ret => ?_)
  have hown : s.vm.findClass RX0 = some m.cls := hown
  have hS : va_S A s.heap s.heap [] := va_S.rf
  have hl : lv_has ls 4 [(0, .ref h0)] := hl
  refine lv_iconst (v := 0) hx hb dX0_reckonGains_0 (by decide) ?_
  refine lv_istore_n (lv' := [(1, .int 0), (0, .ref h0)]) hx hb dX0_reckonGains_1 rfl hl (by decide) rfl (fun ls hl => ?_)
  refine lv_iload_n hx hb dX0_reckonGains_2 rfl (lv_at hl 0 rfl) ?_
  refine lv_aload_n hx hb dX0_reckonGains_3 rfl (lv_at hl 1 rfl) ?_
  refine va_get (D := (dC, dI)) (ci := 0) (v := .ref h1) (C := RX0) (T := TX0) (N := 8) hx hb hts inB_0 hown hE.1 hP 0 rfl rfl 0 (by decide) (hts _ k_430) (fun _ h9 => h9) rfl dX0_reckonGains_4 ?_
  refine va_getN (D := (dC, dI)) (ci := 7) (v := .int 0) (C := RX7) (T := TX7) (N := 10) hx hb hts inB_7 hown hE.1 hP 1 rfl rfl 3 (by decide) (va_Nw.use rfl (hE.2 _ k_216)) (fun _ h9 => h9) rfl dX0_reckonGains_7 ?_
  refine lv_icmp_ge (tgt := 79) hx hb dX0_reckonGains_10 (by decide) (fun _ => ?_) (fun c0 => absurd (by decide) c0)
  exact ret () _ _ _ _ _ _ trivial (hP.sub [0, 1] rfl) (hD.sub [0, 1] (by decide) rfl) hS dX0_reckonGains_79 (Nat.le_of_ble_eq_true rfl) (Nat.le_of_ble_eq_true rfl)
theorem po_J7_fill_53178_266 (i1 : Nat) (gi1 : 0 ≤ i1) (hi1 : i1 ≤ 448) (c2 : 448 ≤ (nI (i1))) : i1 = 448 := by have ti_0 : (nI (i1)).toInt = (((i1 : Nat)) : Int) := nI_toInt (by omega); simp only [fa_lt, fa_le, fa_eq, tl_448, ti_0] at *; omega
theorem po_J7_fill_53178_267 (i1 : Nat) (gi1 : 0 ≤ i1) (hi1 : i1 ≤ 448) (c2 : ¬ 448 ≤ (nI (i1))) : i1 < 448 := by have ti_0 : (nI (i1)).toInt = (((i1 : Nat)) : Int) := nI_toInt (by omega); simp only [fa_lt, fa_le, fa_eq, tl_448, ti_0] at *; omega
set_option maxHeartbeats 4000000 in
set_option maxRecDepth 100000 in
theorem cnJ7_fill_53178_3 (l : Launch) (dC : Nat → ClassId) (dI : Nat → Nat → Nat) (cy : Nat → ClassId) (h0 : Nat) : ctV l (dC, dI) cy yJ7_fill_53178 cJ7_fill_53178 4 1 60 0 0 Unit [.ref h0, .int 0] [(h0, .inl (cy 1, 448, .inl zF))] (fun _ => True) (fun u => [(h0, .inl (cy 1, 448, .inl (fiF zF 0 448)))]) := by
  refine ctV_of (by decide) (Nat.le_of_ble_eq_true rfl) (fun p e s m below meth c A ls Q hx hb hml hts hown hnm hE hP hD hA hl ret => ?_)
  have hown : s.vm.findClass RJ7 = some m.cls := hown
  have hS : va_S A s.heap s.heap [] := va_S.rf
  have hl : lv_has ls 4 [(0, .ref h0), (1, .int 0)] := hl
  refine lv_iconst (v := 0) hx hb dJ7_fill_53178_0 (by decide) ?_
  refine lv_istore_n (lv' := [(2, .int 0), (0, .ref h0), (1, .int 0)]) hx hb dJ7_fill_53178_1 rfl hl (by decide) rfl (fun ls hl => ?_)
  refine lv_aload_n hx hb dJ7_fill_53178_2 rfl (lv_at hl 1 rfl) ?_
  refine va_alen (v := 448) hx hb hE.1 hP 0 1 rfl rfl rfl dJ7_fill_53178_3 ?_
  refine lv_istore_n (lv' := [(3, .int 448), (2, .int 0), (0, .ref h0), (1, .int 0)]) hx hb dJ7_fill_53178_4 rfl hl (by decide) rfl (fun ls hl => ?_)
  have lp1 : ∀ (n i1 : Nat), 0 ≤ i1 → i1 ≤ 448 → 448 < i1 + n → ∀ (H : Heap) (locs : List Loc) (ls : Array Slot), va_P (dC, dI) vwCl [(h0, .inl (cy 1, 448, .inl (fiF zF 0 i1)))] H → va_D A [(h0, .inl (cy 1, 448, .inl (fiF zF 0 i1)))] → va_S A s.heap H locs → lv_has ls 4 [(3, .int 448), (2, .int (nI (i1))), (0, .ref h0), (1, .int 0)] → W p l e { frames := 1, cells := 0, slots := 0, locals := 60 } s m ([.ref h0, .int 0] : List Value).toArray below meth c H locs 0 0 Q (F0 m 5 ls []) := by
    intro n
    induction n with
    | zero => intro i1 h0 h1 h2; exact absurd h2 (by omega)
    | succ n ih1 =>
      intro i1 hloi1 hi1 hin H locs ls hP hD hS hl
      refine lv_iload_n hx hb dJ7_fill_53178_5 rfl (lv_at hl 1 rfl) ?_
      refine lv_iload_n hx hb dJ7_fill_53178_6 rfl (lv_at hl 0 rfl) ?_
      refine lv_icmp_ge (tgt := 20) hx hb dJ7_fill_53178_7 (by decide) (fun c2 => ?_) (fun c2 => ?_)
      · skip
        have hsi1 : i1 = 448 := (po_J7_fill_53178_266 i1 hloi1 hi1 c2)
        subst hsi1
        exact ret () _ _ _ _ _ _ trivial (hP.sub [0] rfl) (hD.sub [0] (by decide) rfl) hS dJ7_fill_53178_20 (Nat.le_of_ble_eq_true rfl) (Nat.le_of_ble_eq_true rfl)
      · skip
        have hsi1 : i1 < 448 := (po_J7_fill_53178_267 i1 hloi1 hi1 c2)
        refine lv_aload_n hx hb dJ7_fill_53178_10 rfl (lv_at hl 2 rfl) ?_
        refine lv_iload_n hx hb dJ7_fill_53178_11 rfl (lv_at hl 1 rfl) ?_
        refine lv_iload_n hx hb dJ7_fill_53178_12 rfl (lv_at hl 3 rfl) ?_
        refine stI (k := (i1)) hx hb hE hP hD hS 0 rfl (vp_in_nI (by omega) (by decide)) (nI_clamp (by omega)) dJ7_fill_53178_13 (fun H locs hP hD hS => ?_)
        have eU : upd (fiF zF 0 i1) (i1) 0 = (fiF zF 0 (i1 + 1)) := fiF_s zF 0 i1
        rw [eU] at hP hD
        have hP : va_P (dC, dI) vwCl [(h0, .inl (cy 1, 448, .inl (fiF zF 0 (i1 + 1))))] H := hP
        have hD : va_D A [(h0, .inl (cy 1, 448, .inl (fiF zF 0 (i1 + 1))))] := hD
        refine lv_iinc (v := (nI (i1 + 1))) (lv' := [(2, .int (nI (i1 + 1))), (3, .int 448), (0, .ref h0), (1, .int 0)]) hx hb dJ7_fill_53178_14 hl (k := 1) rfl (nI_1 (i1)) (by decide) rfl (fun ls hl => ?_)
        refine lv_goto (tgt := 5) hx hb dJ7_fill_53178_17 (by decide) ?_
        exact ih1 (i1 + 1) (by omega) (by omega) (by omega) _ _ _ (hP.sub [0] rfl) (hD.sub [0] (by decide) rfl) hS (lv_sub hl [1, 0, 2, 3] rfl)
  have hP := hP
  have hD := hD
  have eI : ([(h0, .inl (cy 1, 448, .inl zF))] : va_W) = [(h0, .inl (cy 1, 448, .inl (fiF zF 0 0)))] := by rw [fiF_0]
  rw [eI] at hP hD
  exact lp1 449 0 (by decide) (by decide) (by decide) _ _ _ (hP.sub [0] rfl) (hD.sub [0] (by decide) rfl) hS (lv_sub hl [0, 1, 2, 3] rfl)
set_option maxHeartbeats 4000000 in
set_option maxRecDepth 100000 in
theorem cnX0_reckonBest_1 (l : Launch) (dC : Nat → ClassId) (dI : Nat → Nat → Nat) (cy : Nat → ClassId) (h0 : Nat) (h1 : Nat) (h2 : Nat) (b0 : Nat) (b1 : Nat) (b2 : Nat) (b3 : Nat) (b4 : Nat) (b5 : Nat) : ctV l (dC, dI) cy yX0_reckonBest cX0_reckonBest 5 2 83 0 0 Unit [.ref h0] [(h0, .inr (0, [.ref h2, .ref b0, .ref b1, .int 0, .ref h1, .ref b2, .int 0, .int 0])), (h1, .inl (cy 1, 448, .inl zF)), (h2, .inr (7, [.ref b3, .ref b4, .ref b5, .int 0, .int 0, .int 10, .int 150, .int 2, .int 0, .int 0]))] (fun _ => True) (fun u => [(h0, .inr (0, [.ref h2, .ref b0, .ref b1, .int 0, .ref h1, .ref b2, .int 0, .int 0])), (h1, .inl (cy 1, 448, .inl (fiF zF 0 448))), (h2, .inr (7, [.ref b3, .ref b4, .ref b5, .int 0, .int 0, .int 10, .int 150, .int 2, .int 0, .int 0]))]) := by
  refine ctV_of (by decide) (Nat.le_of_ble_eq_true rfl) (fun p e s m below meth c A ls Q hx hb hml hts hown hnm hE hP hD hA hl ret => ?_)
  have hown : s.vm.findClass RX0 = some m.cls := hown
  have hS : va_S A s.heap s.heap [] := va_S.rf
  have hl : lv_has ls 5 [(0, .ref h0)] := hl
  refine lv_aload_n hx hb dX0_reckonBest_0 rfl (lv_at hl 0 rfl) ?_
  refine va_get (D := (dC, dI)) (ci := 0) (v := .ref h1) (C := RX0) (T := TX0) (N := 8) hx hb hts inB_0 hown hE.1 hP 0 rfl rfl 4 (by decide) (hts _ k_435) (fun _ h9 => h9) rfl dX0_reckonBest_1 ?_
  refine lv_iconst (v := 0) hx hb dX0_reckonBest_4 (by decide) ?_
  refine caSv (n := 2) (wr := [(h0, .inr (0, [.ref h2, .ref b0, .ref b1, .int 0, .ref h1, .ref b2, .int 0, .int 0])), (h2, .inr (7, [.ref b3, .ref b4, .ref b5, .int 0, .int 0, .int 10, .int 150, .int 2, .int 0, .int 0]))]) (rest := []) hx hb hml hown hts hE hP hD hS hA (cnJ7_fill_53178_3 l dC dI cy h1) k_984 k_465 k_113 k_466 (by decide +kernel) ⟨Nat.le_of_ble_eq_true rfl, Nat.le_of_ble_eq_true rfl⟩ [1] [0, 2] rfl rfl rfl (by decide) (by decide) (by decide) rfl hl.1 rfl (Nat.le_of_ble_eq_true rfl) dX0_reckonBest_5 ⟨Nat.le_of_ble_eq_true rfl, Nat.le_of_ble_eq_true rfl⟩ (fun u H locs hw hP hD hS => ?_)
  have hP : va_P (dC, dI) vwCl [(h0, .inr (0, [.ref h2, .ref b0, .ref b1, .int 0, .ref h1, .ref b2, .int 0, .int 0])), (h2, .inr (7, [.ref b3, .ref b4, .ref b5, .int 0, .int 0, .int 10, .int 150, .int 2, .int 0, .int 0])), (h1, .inl (cy 1, 448, .inl (fiF zF 0 448)))] H := hP
  have hD : va_D A [(h0, .inr (0, [.ref h2, .ref b0, .ref b1, .int 0, .ref h1, .ref b2, .int 0, .int 0])), (h2, .inr (7, [.ref b3, .ref b4, .ref b5, .int 0, .int 0, .int 10, .int 150, .int 2, .int 0, .int 0])), (h1, .inl (cy 1, 448, .inl (fiF zF 0 448)))] := hD
  refine lv_aload_n hx hb dX0_reckonBest_8 rfl (lv_at hl 0 rfl) ?_
  refine va_get (D := (dC, dI)) (ci := 0) (v := .ref h2) (C := RX0) (T := TX0) (N := 8) hx hb hts inB_0 hown hE.1 hP 0 rfl rfl 0 (by decide) (hts _ k_430) (fun _ h9 => h9) rfl dX0_reckonBest_9 ?_
  refine va_getN (D := (dC, dI)) (ci := 7) (v := .int 0) (C := RX7) (T := TX7) (N := 10) hx hb hts inB_7 hown hE.1 hP 1 rfl rfl 3 (by decide) (va_Nw.use rfl (hE.2 _ k_216)) (fun _ h9 => h9) rfl dX0_reckonBest_12 ?_
  refine lv_iconst (v := 1) hx hb dX0_reckonBest_15 (by decide) ?_
  refine lv_isub hx hb dX0_reckonBest_16 ?_
  refine tI (y := (-1)) (by decide) ?_
  refine lv_istore_n (lv' := [(1, .int (-1)), (0, .ref h0)]) hx hb dX0_reckonBest_17 rfl hl (by decide) rfl (fun ls hl => ?_)
  refine lv_iload_n hx hb dX0_reckonBest_18 rfl (lv_at hl 0 rfl) ?_
  refine lv_if_lt (tgt := 102) hx hb dX0_reckonBest_19 (by decide) (fun _ => ?_) (fun c0 => absurd (by decide) c0)
  exact ret () _ _ _ _ _ _ trivial (hP.sub [0, 2, 1] rfl) (hD.sub [0, 2, 1] (by decide) rfl) hS dX0_reckonBest_102 (Nat.le_of_ble_eq_true rfl) (Nat.le_of_ble_eq_true rfl)
set_option maxHeartbeats 4000000 in
set_option maxRecDepth 100000 in
theorem cnX0_layDressing_1 (l : Launch) (dC : Nat → ClassId) (dI : Nat → Nat → Nat) (cy : Nat → ClassId) (h0 : Nat) (h1 : Nat) (h2 : Nat) (b0 : Nat) (b1 : Nat) (b2 : Nat) (b3 : Nat) (b4 : Nat) (b5 : Nat) : ctV l (dC, dI) cy yX0_layDressing cX0_layDressing 4 3 107 0 0 Unit [.ref h0] [(h0, .inr (0, [.ref h1, .ref b0, .ref b1, .int 0, .ref h2, .ref b2, .int 0, .int 0])), (h1, .inr (7, [.ref b3, .ref b4, .ref b5, .int 0, .int 0, .int 10, .int 150, .int 2, .int 0, .int 0])), (h2, .inl (cy 1, 448, .inl zF))] (fun _ => True) (fun u => [(h0, .inr (0, [.ref h1, .ref b0, .ref b1, .int 0, .ref h2, .ref b2, .int 0, .int 0])), (h1, .inr (7, [.ref b3, .ref b4, .ref b5, .int 0, .int 0, .int 10, .int 150, .int 2, .int 0, .int 0])), (h2, .inl (cy 1, 448, .inl (fiF zF 0 448)))]) := by
  refine ctV_of (by decide) (Nat.le_of_ble_eq_true rfl) (fun p e s m below meth c A ls Q hx hb hml hts hown hnm hE hP hD hA hl ret => ?_)
  have hown : s.vm.findClass RX0 = some m.cls := hown
  have hS : va_S A s.heap s.heap [] := va_S.rf
  have hl : lv_has ls 4 [(0, .ref h0)] := hl
  refine lv_aload_n hx hb dX0_layDressing_0 rfl (lv_at hl 0 rfl) ?_
  refine caVv (n := 0) (wr := [(h2, .inl (cy 1, 448, .inl zF))]) (rest := []) hx hb hml hown hts hE hP hD hS hA (cnX0_reckonGains_1 l dC dI cy h0 h1 b0 b1 h2 b2 b3 b4 b5) k_975 k_977 k_22 k_111 k_978 (by decide +kernel) ⟨Nat.le_of_ble_eq_true rfl, Nat.le_of_ble_eq_true rfl⟩ [0, 1] [2] rfl rfl rfl (by decide) (by decide) (by decide) 0 0 rfl rfl rfl hl.1 rfl (Nat.le_of_ble_eq_true rfl) dX0_layDressing_1 ⟨Nat.le_of_ble_eq_true rfl, Nat.le_of_ble_eq_true rfl⟩ (fun u H locs hw hP hD hS => ?_)
  have hP : va_P (dC, dI) vwCl [(h2, .inl (cy 1, 448, .inl zF)), (h0, .inr (0, [.ref h1, .ref b0, .ref b1, .int 0, .ref h2, .ref b2, .int 0, .int 0])), (h1, .inr (7, [.ref b3, .ref b4, .ref b5, .int 0, .int 0, .int 10, .int 150, .int 2, .int 0, .int 0]))] H := hP
  have hD : va_D A [(h2, .inl (cy 1, 448, .inl zF)), (h0, .inr (0, [.ref h1, .ref b0, .ref b1, .int 0, .ref h2, .ref b2, .int 0, .int 0])), (h1, .inr (7, [.ref b3, .ref b4, .ref b5, .int 0, .int 0, .int 10, .int 150, .int 2, .int 0, .int 0]))] := hD
  refine lv_aload_n hx hb dX0_layDressing_4 rfl (lv_at hl 0 rfl) ?_
  refine caVv (n := 0) (wr := []) (rest := []) hx hb hml hown hts hE hP hD hS hA (cnX0_reckonBest_1 l dC dI cy h0 h2 h1 b0 b1 b2 b3 b4 b5) k_980 k_982 k_23 k_111 k_983 (by decide +kernel) ⟨Nat.le_of_ble_eq_true rfl, Nat.le_of_ble_eq_true rfl⟩ [1, 0, 2] [] rfl rfl rfl (by decide) (by decide) (by decide) 0 0 rfl rfl rfl hl.1 rfl (Nat.le_of_ble_eq_true rfl) dX0_layDressing_5 ⟨Nat.le_of_ble_eq_true rfl, Nat.le_of_ble_eq_true rfl⟩ (fun u H locs hw hP hD hS => ?_)
  have hP : va_P (dC, dI) vwCl [(h0, .inr (0, [.ref h1, .ref b0, .ref b1, .int 0, .ref h2, .ref b2, .int 0, .int 0])), (h2, .inl (cy 1, 448, .inl (fiF zF 0 448))), (h1, .inr (7, [.ref b3, .ref b4, .ref b5, .int 0, .int 0, .int 10, .int 150, .int 2, .int 0, .int 0]))] H := hP
  have hD : va_D A [(h0, .inr (0, [.ref h1, .ref b0, .ref b1, .int 0, .ref h2, .ref b2, .int 0, .int 0])), (h2, .inl (cy 1, 448, .inl (fiF zF 0 448))), (h1, .inr (7, [.ref b3, .ref b4, .ref b5, .int 0, .int 0, .int 10, .int 150, .int 2, .int 0, .int 0]))] := hD
  refine lv_aload_n hx hb dX0_layDressing_8 rfl (lv_at hl 0 rfl) ?_
  refine caVv (n := 0) (wr := [(h2, .inl (cy 1, 448, .inl (fiF zF 0 448))), (h1, .inr (7, [.ref b3, .ref b4, .ref b5, .int 0, .int 0, .int 10, .int 150, .int 2, .int 0, .int 0]))]) (rest := []) hx hb hml hown hts hE hP hD hS hA (cnX0_clear_1 l dC dI cy h0 h1 b0 b1 h2 b2) k_990 k_787 k_788 k_111 k_789 (by decide +kernel) ⟨Nat.le_of_ble_eq_true rfl, Nat.le_of_ble_eq_true rfl⟩ [0] [1, 2] rfl rfl rfl (by decide) (by decide) (by decide) 0 0 rfl rfl rfl hl.1 rfl (Nat.le_of_ble_eq_true rfl) dX0_layDressing_9 ⟨Nat.le_of_ble_eq_true rfl, Nat.le_of_ble_eq_true rfl⟩ (fun u H locs hw hP hD hS => ?_)
  have hP : va_P (dC, dI) vwCl [(h2, .inl (cy 1, 448, .inl (fiF zF 0 448))), (h1, .inr (7, [.ref b3, .ref b4, .ref b5, .int 0, .int 0, .int 10, .int 150, .int 2, .int 0, .int 0])), (h0, .inr (0, [.ref h1, .ref b0, .ref b1, .int 0, .ref h2, .ref b2, .int 0, .int 0]))] H := hP
  have hD : va_D A [(h2, .inl (cy 1, 448, .inl (fiF zF 0 448))), (h1, .inr (7, [.ref b3, .ref b4, .ref b5, .int 0, .int 0, .int 10, .int 150, .int 2, .int 0, .int 0])), (h0, .inr (0, [.ref h1, .ref b0, .ref b1, .int 0, .ref h2, .ref b2, .int 0, .int 0]))] := hD
  refine lv_aload_n hx hb dX0_layDressing_12 rfl (lv_at hl 0 rfl) ?_
  refine lv_iconst (v := 0) hx hb dX0_layDressing_13 (by decide) ?_
  refine va_put (D := (dC, dI)) (ci := 0) (v := .int 0) (ty := tyX0 6) (C := RX0) (T := TX0) (N := 8) hx hb hts inB_0 tyX0 tyX0_ok nmX0 hown hE.1 hP hD hS 2 rfl rfl 6 (by decide) (hts _ k_437) (fun _ h9 => h9) rfl (tyX0_ok 6 (by decide)) rfl rfl (Nat.le_of_ble_eq_true rfl) dX0_layDressing_14 (fun H locs hP hD hS => ?_)
  have hP : va_P (dC, dI) vwCl [(h2, .inl (cy 1, 448, .inl (fiF zF 0 448))), (h1, .inr (7, [.ref b3, .ref b4, .ref b5, .int 0, .int 0, .int 10, .int 150, .int 2, .int 0, .int 0])), (h0, .inr (0, [.ref h1, .ref b0, .ref b1, .int 0, .ref h2, .ref b2, .int 0, .int 0]))] H := hP
  have hD : va_D A [(h2, .inl (cy 1, 448, .inl (fiF zF 0 448))), (h1, .inr (7, [.ref b3, .ref b4, .ref b5, .int 0, .int 0, .int 10, .int 150, .int 2, .int 0, .int 0])), (h0, .inr (0, [.ref h1, .ref b0, .ref b1, .int 0, .ref h2, .ref b2, .int 0, .int 0]))] := hD
  refine lv_aload_n hx hb dX0_layDressing_17 rfl (lv_at hl 0 rfl) ?_
  refine lv_iconst (v := 0) hx hb dX0_layDressing_18 (by decide) ?_
  refine va_put (D := (dC, dI)) (ci := 0) (v := .int 0) (ty := tyX0 7) (C := RX0) (T := TX0) (N := 8) hx hb hts inB_0 tyX0 tyX0_ok nmX0 hown hE.1 hP hD hS 2 rfl rfl 7 (by decide) (hts _ k_439) (fun _ h9 => h9) rfl (tyX0_ok 7 (by decide)) rfl rfl (Nat.le_of_ble_eq_true rfl) dX0_layDressing_19 (fun H locs hP hD hS => ?_)
  have hP : va_P (dC, dI) vwCl [(h2, .inl (cy 1, 448, .inl (fiF zF 0 448))), (h1, .inr (7, [.ref b3, .ref b4, .ref b5, .int 0, .int 0, .int 10, .int 150, .int 2, .int 0, .int 0])), (h0, .inr (0, [.ref h1, .ref b0, .ref b1, .int 0, .ref h2, .ref b2, .int 0, .int 0]))] H := hP
  have hD : va_D A [(h2, .inl (cy 1, 448, .inl (fiF zF 0 448))), (h1, .inr (7, [.ref b3, .ref b4, .ref b5, .int 0, .int 0, .int 10, .int 150, .int 2, .int 0, .int 0])), (h0, .inr (0, [.ref h1, .ref b0, .ref b1, .int 0, .ref h2, .ref b2, .int 0, .int 0]))] := hD
  refine lv_iconst (v := 0) hx hb dX0_layDressing_22 (by decide) ?_
  refine lv_istore_n (lv' := [(1, .int 0), (0, .ref h0)]) hx hb dX0_layDressing_23 rfl hl (by decide) rfl (fun ls hl => ?_)
  refine lv_iconst (v := 0) hx hb dX0_layDressing_24 (by decide) ?_
  refine lv_istore_n (lv' := [(2, .int 0), (1, .int 0), (0, .ref h0)]) hx hb dX0_layDressing_25 rfl hl (by decide) rfl (fun ls hl => ?_)
  refine lv_iload_n hx hb dX0_layDressing_26 rfl (lv_at hl 0 rfl) ?_
  refine lv_aload_n hx hb dX0_layDressing_27 rfl (lv_at hl 2 rfl) ?_
  refine va_get (D := (dC, dI)) (ci := 0) (v := .ref h1) (C := RX0) (T := TX0) (N := 8) hx hb hts inB_0 hown hE.1 hP 2 rfl rfl 0 (by decide) (hts _ k_430) (fun _ h9 => h9) rfl dX0_layDressing_28 ?_
  refine va_getN (D := (dC, dI)) (ci := 7) (v := .int 0) (C := RX7) (T := TX7) (N := 10) hx hb hts inB_7 hown hE.1 hP 1 rfl rfl 3 (by decide) (va_Nw.use rfl (hE.2 _ k_216)) (fun _ h9 => h9) rfl dX0_layDressing_31 ?_
  refine lv_icmp_ge (tgt := 94) hx hb dX0_layDressing_34 (by decide) (fun _ => ?_) (fun c0 => absurd (by decide) c0)
  exact ret () _ _ _ _ _ _ trivial (hP.sub [2, 1, 0] rfl) (hD.sub [2, 1, 0] (by decide) rfl) hS dX0_layDressing_94 (Nat.le_of_ble_eq_true rfl) (Nat.le_of_ble_eq_true rfl)
theorem pt_X10_dress_280 (p1 : Int32) (c1 : ¬ p1 = 0) (c2 : ¬ p1 = 1) : ((-1) : Int32) = F_dress p1 := by
  unfold F_dress
  (repeat' split)
  all_goals first | rfl | assumption | (exfalso; simp only [fa_lt, fa_le, fa_eq, tl_m1, tl_0, tl_1] at *; omega) | (simp only [fa_lt, fa_le, fa_eq, tl_m1, tl_0, tl_1] at *; omega)
theorem pt_X10_dress_281 (p1 : Int32) (c1 : ¬ p1 = 0) (c2 : p1 = 1) : (0 : Int32) = F_dress p1 := by
  unfold F_dress
  (repeat' split)
  all_goals first | rfl | assumption | (exfalso; simp only [fa_lt, fa_le, fa_eq, tl_m1, tl_0, tl_1] at *; omega) | (simp only [fa_lt, fa_le, fa_eq, tl_m1, tl_0, tl_1] at *; omega)
theorem pt_X10_dress_282 (p1 : Int32) (c1 : p1 = 0) : (0 : Int32) = F_dress p1 := by
  unfold F_dress
  (repeat' split)
  all_goals first | rfl | assumption | (exfalso; simp only [fa_lt, fa_le, fa_eq, tl_m1, tl_0, tl_1] at *; omega) | (simp only [fa_lt, fa_le, fa_eq, tl_m1, tl_0, tl_1] at *; omega)
set_option maxHeartbeats 4000000 in
set_option maxRecDepth 100000 in
theorem cnX10_dress_1 (l : Launch) (dC : Nat → ClassId) (dI : Nat → Nat → Nat) (cy : Nat → ClassId) (h0 : Nat) (h1 : Nat) (h2 : Nat) (h3 : Nat) (b0 : Nat) (b1 : Nat) (b2 : Nat) (b3 : Nat) (b4 : Nat) (b5 : Nat) (b6 : Nat) (b7 : Nat) (b8 : Nat) (b9 : Nat) (b10 : Nat) (b11 : Nat) (p1 : Int32) : ctI l (dC, dI) cy yX10_dress cX10_dress 2 .int 4 130 0 0 Unit [.ref h0, .int p1] [(h0, .inr (10, [.ref b0, .ref b1, .ref h2, .ref b2, .ref b3, .ref b4, .ref b5, .ref h1, .ref b6, .int 0])), (h1, .inr (0, [.ref h2, .ref b2, .ref b7, .int 0, .ref h3, .ref b8, .int 0, .int 0])), (h2, .inr (7, [.ref b9, .ref b10, .ref b11, .int 0, .int 0, .int 10, .int 150, .int 2, .int 0, .int 0])), (h3, .inl (cy 1, 448, .inl zF))] (fun r _ => r = F_dress p1) (fun u => []) := by
  refine ctI_of (by decide) (Nat.le_of_ble_eq_true rfl) (fun p e s m below meth c A ls Q hx hb hml hts hown hE hP hD hA hl ret => ?_)
  have hown : s.vm.findClass RX10 = some m.cls := hown
  have hS : va_S A s.heap s.heap [] := va_S.rf
  have hl : lv_has ls 2 [(0, .ref h0), (1, .int p1)] := hl
  refine lv_aload_n hx hb dX10_dress_0 rfl (lv_at hl 0 rfl) ?_
  refine va_get (D := (dC, dI)) (ci := 10) (v := .ref h1) (C := RX10) (T := TX10) (N := 10) hx hb hts inB_10 hown hE.1 hP 0 rfl rfl 7 (by decide) (hts _ k_498) (fun _ h9 => h9) rfl dX10_dress_1 ?_
  refine caVv (n := 0) (wr := [(h0, .inr (10, [.ref b0, .ref b1, .ref h2, .ref b2, .ref b3, .ref b4, .ref b5, .ref h1, .ref b6, .int 0]))]) (rest := []) hx hb hml hown hts hE hP hD hS hA (cnX0_layDressing_1 l dC dI cy h1 h2 h3 b2 b7 b8 b9 b10 b11) k_971 k_972 k_973 k_111 k_974 (by decide +kernel) ⟨Nat.le_of_ble_eq_true rfl, Nat.le_of_ble_eq_true rfl⟩ [1, 2, 3] [0] rfl rfl rfl (by decide) (by decide) (by decide) 0 0 rfl rfl rfl hl.1 rfl (Nat.le_of_ble_eq_true rfl) dX10_dress_4 ⟨Nat.le_of_ble_eq_true rfl, Nat.le_of_ble_eq_true rfl⟩ (fun u H locs hw hP hD hS => ?_)
  have hP : va_P (dC, dI) vwCl [(h0, .inr (10, [.ref b0, .ref b1, .ref h2, .ref b2, .ref b3, .ref b4, .ref b5, .ref h1, .ref b6, .int 0])), (h1, .inr (0, [.ref h2, .ref b2, .ref b7, .int 0, .ref h3, .ref b8, .int 0, .int 0])), (h2, .inr (7, [.ref b9, .ref b10, .ref b11, .int 0, .int 0, .int 10, .int 150, .int 2, .int 0, .int 0])), (h3, .inl (cy 1, 448, .inl (fiF zF 0 448)))] H := hP
  have hD : va_D A [(h0, .inr (10, [.ref b0, .ref b1, .ref h2, .ref b2, .ref b3, .ref b4, .ref b5, .ref h1, .ref b6, .int 0])), (h1, .inr (0, [.ref h2, .ref b2, .ref b7, .int 0, .ref h3, .ref b8, .int 0, .int 0])), (h2, .inr (7, [.ref b9, .ref b10, .ref b11, .int 0, .int 0, .int 10, .int 150, .int 2, .int 0, .int 0])), (h3, .inl (cy 1, 448, .inl (fiF zF 0 448)))] := hD
  refine lv_iload_n hx hb dX10_dress_7 rfl (lv_at hl 1 rfl) ?_
  refine lv_if_ne (tgt := 21) hx hb dX10_dress_8 (by decide) (fun c1 => ?_) (fun c1 => ?_)
  · skip
    refine lv_iload_n hx hb dX10_dress_21 rfl (lv_at hl 1 rfl) ?_
    refine lv_iconst (v := 1) hx hb dX10_dress_22 (by decide) ?_
    refine lv_icmp_ne (tgt := 36) hx hb dX10_dress_23 (by decide) (fun c2 => ?_) (fun c2 => ?_)
    · skip
      refine lv_iconst (v := (-1)) hx hb dX10_dress_36 (by decide) ?_
      exact ret (-1) () _ _ _ _ _ _ rfl (pt_X10_dress_280 p1 c1 c2) (hP.sub [] rfl) (hD.sub [] (by decide) rfl) hS dX10_dress_37 (Nat.le_of_ble_eq_true rfl) (Nat.le_of_ble_eq_true rfl)
    · skip
      refine lv_aload_n hx hb dX10_dress_26 rfl (lv_at hl 0 rfl) ?_
      refine va_get (D := (dC, dI)) (ci := 10) (v := .ref h1) (C := RX10) (T := TX10) (N := 10) hx hb hts inB_10 hown hE.1 hP 0 rfl rfl 7 (by decide) (hts _ k_498) (fun _ h9 => h9) rfl dX10_dress_27 ?_
      refine va_getN (D := (dC, dI)) (ci := 0) (v := .int 0) (C := RX0) (T := TX0) (N := 8) hx hb hts inB_0 hown hE.1 hP 1 rfl rfl 7 (by decide) (va_Nw.use rfl (hE.2 _ k_440)) (fun _ h9 => h9) rfl dX10_dress_30 ?_
      refine lv_goto (tgt := 37) hx hb dX10_dress_33 (by decide) ?_
      exact ret 0 () _ _ _ _ _ _ rfl (pt_X10_dress_281 p1 c1 c2) (hP.sub [] rfl) (hD.sub [] (by decide) rfl) hS dX10_dress_37 (Nat.le_of_ble_eq_true rfl) (Nat.le_of_ble_eq_true rfl)
  · skip
    refine lv_aload_n hx hb dX10_dress_11 rfl (lv_at hl 0 rfl) ?_
    refine va_get (D := (dC, dI)) (ci := 10) (v := .ref h1) (C := RX10) (T := TX10) (N := 10) hx hb hts inB_10 hown hE.1 hP 0 rfl rfl 7 (by decide) (hts _ k_498) (fun _ h9 => h9) rfl dX10_dress_12 ?_
    refine va_getN (D := (dC, dI)) (ci := 0) (v := .int 0) (C := RX0) (T := TX0) (N := 8) hx hb hts inB_0 hown hE.1 hP 1 rfl rfl 6 (by decide) (va_Nw.use rfl (hE.2 _ k_438)) (fun _ h9 => h9) rfl dX10_dress_15 ?_
    refine lv_goto (tgt := 37) hx hb dX10_dress_18 (by decide) ?_
    exact ret 0 () _ _ _ _ _ _ rfl (pt_X10_dress_282 p1 c1) (hP.sub [] rfl) (hD.sub [] (by decide) rfl) hS dX10_dress_37 (Nat.le_of_ble_eq_true rfl) (Nat.le_of_ble_eq_true rfl)
theorem po_X11_isIn_283 (p0 : Int32) (hv : 0 ≤ p0 ∧ p0 ≤ 1) (hv : 0 ≤ p0 ∧ p0 ≤ 1) : ¬ p0 < 0 := by simp only [fa_lt, fa_le, fa_eq, tl_0, tl_1] at *; omega
theorem po_X11_isIn_284 (p0 : Int32) (hv : 0 ≤ p0 ∧ p0 ≤ 1) (hv : 0 ≤ p0 ∧ p0 ≤ 1) : ¬ 1 < p0 := by simp only [fa_lt, fa_le, fa_eq, tl_0, tl_1] at *; omega
set_option maxHeartbeats 4000000 in
set_option maxRecDepth 100000 in
theorem cnX11_isIn_2 (l : Launch) (dC : Nat → ClassId) (dI : Nat → Nat → Nat) (cy : Nat → ClassId) (p0 : Int32) (hv : 0 ≤ p0 ∧ p0 ≤ 1) : ctI l (dC, dI) cy yX11_isIn cX11_isIn 3 .boolean 1 60 0 0 Unit [.int p0, .int 0, .int 1] [] (fun r _ => r = 1) (fun u => []) := by
  refine ctI_of (by decide) (Nat.le_of_ble_eq_true rfl) (fun p e s m below meth c A ls Q hx hb hml hts hown hE hP hD hA hl ret => ?_)
  have hown : s.vm.findClass RX11 = some m.cls := hown
  have hS : va_S A s.heap s.heap [] := va_S.rf
  have hl : lv_has ls 3 [(0, .int p0), (1, .int 0), (2, .int 1)] := hl
  refine lv_iload_n hx hb dX11_isIn_0 rfl (lv_at hl 0 rfl) ?_
  refine lv_iload_n hx hb dX11_isIn_1 rfl (lv_at hl 1 rfl) ?_
  refine lv_icmp_lt (tgt := 14) hx hb dX11_isIn_2 (by decide) (fun c0 => absurd c0 (po_X11_isIn_283 p0 hv hv)) (fun _ => ?_)
  refine lv_iload_n hx hb dX11_isIn_5 rfl (lv_at hl 0 rfl) ?_
  refine lv_iload_n hx hb dX11_isIn_6 rfl (lv_at hl 2 rfl) ?_
  refine lv_icmp_gt (tgt := 14) hx hb dX11_isIn_7 (by decide) (fun c0 => absurd c0 (po_X11_isIn_284 p0 hv hv)) (fun _ => ?_)
  refine lv_iconst (v := 1) hx hb dX11_isIn_10 (by decide) ?_
  refine lv_goto (tgt := 15) hx hb dX11_isIn_11 (by decide) ?_
  exact ret 1 () _ _ _ _ _ _ rfl rfl (hP.sub [] rfl) (hD.sub [] (by decide) rfl) hS dX11_isIn_15 (Nat.le_of_ble_eq_true rfl) (Nat.le_of_ble_eq_true rfl)
set_option maxHeartbeats 4000000 in
set_option maxRecDepth 100000 in
theorem cnX11_layIlls_1 (l : Launch) (dC : Nat → ClassId) (dI : Nat → Nat → Nat) (cy : Nat → ClassId) (h0 : Nat) (r : Nat → Nat) : ctV l (dC, dI) cy yX11_layIlls cX11_layIlls 3 2 81 0 0 Unit [.ref h0] [(h0, .inr (11, mFs r mv0)), ((r 59), .inl (cy 1, 39, .inl zF)), ((r 60), .inl (cy 1, 39, .inl zF))] (fun _ => True) (fun u => [(h0, .inr (11, mFs r mv0)), ((r 59), .inl (cy 1, 39, .inl zF)), ((r 60), .inl (cy 1, 39, .inl zF))]) := by
  refine ctV_of (by decide) (Nat.le_of_ble_eq_true rfl) (fun p e s m below meth c A ls Q hx hb hml hts hown hnm hE hP hD hA hl ret => ?_)
  have hown : s.vm.findClass RX11 = some m.cls := hown
  have hS : va_S A s.heap s.heap [] := va_S.rf
  have hl : lv_has ls 3 [(0, .ref h0)] := hl
  refine lv_aload_n hx hb dX11_layIlls_0 rfl (lv_at hl 0 rfl) ?_
  refine caVv (n := 0) (wr := []) (rest := []) hx hb hml hown hts hE hP hD hS hA (cnX11_fill_1 l dC dI cy h0 r) k_1739 k_1741 k_71 k_114 k_1742 (by decide +kernel) ⟨Nat.le_of_ble_eq_true rfl, Nat.le_of_ble_eq_true rfl⟩ [0, 1, 2] [] rfl rfl rfl (by decide) (by decide) (by decide) 0 11 rfl rfl rfl hl.1 rfl (Nat.le_of_ble_eq_true rfl) dX11_layIlls_1 ⟨Nat.le_of_ble_eq_true rfl, Nat.le_of_ble_eq_true rfl⟩ (fun u H locs hw hP hD hS => ?_)
  have hP : va_P (dC, dI) vwCl [(h0, .inr (11, mFs r mv0)), ((r 59), .inl (cy 1, 39, .inl zF)), ((r 60), .inl (cy 1, 39, .inl zF))] H := hP
  have hD : va_D A [(h0, .inr (11, mFs r mv0)), ((r 59), .inl (cy 1, 39, .inl zF)), ((r 60), .inl (cy 1, 39, .inl zF))] := hD
  refine lv_iconst (v := 0) hx hb dX11_layIlls_4 (by decide) ?_
  refine lv_istore_n (lv' := [(1, .int 0), (0, .ref h0)]) hx hb dX11_layIlls_5 rfl hl (by decide) rfl (fun ls hl => ?_)
  refine lv_iload_n hx hb dX11_layIlls_6 rfl (lv_at hl 0 rfl) ?_
  refine lv_aload_n hx hb dX11_layIlls_7 rfl (lv_at hl 1 rfl) ?_
  refine va_get (D := (dC, dI)) (ci := 11) (v := .int 0) (C := RX11) (T := TX11) (N := 79) hx hb hts inB_11 hown hE.1 hP 0 rfl rfl 48 (by decide) (hts _ k_1368) (fun _ h9 => h9) rfl dX11_layIlls_8 ?_
  refine lv_icmp_ge (tgt := 53) hx hb dX11_layIlls_11 (by decide) (fun _ => ?_) (fun c0 => absurd (by decide) c0)
  exact ret () _ _ _ _ _ _ trivial (hP.sub [0, 1, 2] rfl) (hD.sub [0, 1, 2] (by decide) rfl) hS dX11_layIlls_53 (Nat.le_of_ble_eq_true rfl) (Nat.le_of_ble_eq_true rfl)
set_option maxHeartbeats 4000000 in
set_option maxRecDepth 100000 in
theorem cnX11_power_1 (l : Launch) (dC : Nat → ClassId) (dI : Nat → Nat → Nat) (cy : Nat → ClassId)  : ctI l (dC, dI) cy yX11_power cX11_power 4 .int 1 60 0 0 Unit [.int 1, .int 0] [] (fun r _ => r = 1) (fun u => []) := by
  refine ctI_of (by decide) (Nat.le_of_ble_eq_true rfl) (fun p e s m below meth c A ls Q hx hb hml hts hown hE hP hD hA hl ret => ?_)
  have hown : s.vm.findClass RX11 = some m.cls := hown
  have hS : va_S A s.heap s.heap [] := va_S.rf
  have hl : lv_has ls 4 [(0, .int 1), (1, .int 0)] := hl
  refine lv_iconst (v := 1) hx hb dX11_power_0 (by decide) ?_
  refine lv_istore_n (lv' := [(2, .int 1), (0, .int 1), (1, .int 0)]) hx hb dX11_power_1 rfl hl (by decide) rfl (fun ls hl => ?_)
  refine lv_iconst (v := 0) hx hb dX11_power_2 (by decide) ?_
  refine lv_istore_n (lv' := [(3, .int 0), (2, .int 1), (0, .int 1), (1, .int 0)]) hx hb dX11_power_3 rfl hl (by decide) rfl (fun ls hl => ?_)
  refine lv_iload_n hx hb dX11_power_4 rfl (lv_at hl 0 rfl) ?_
  refine lv_iload_n hx hb dX11_power_5 rfl (lv_at hl 3 rfl) ?_
  refine lv_icmp_ge (tgt := 19) hx hb dX11_power_6 (by decide) (fun _ => ?_) (fun c0 => absurd (by decide) c0)
  refine lv_iload_n hx hb dX11_power_19 rfl (lv_at hl 1 rfl) ?_
  exact ret 1 () _ _ _ _ _ _ rfl rfl (hP.sub [] rfl) (hD.sub [] (by decide) rfl) hS dX11_power_20 (Nat.le_of_ble_eq_true rfl) (Nat.le_of_ble_eq_true rfl)
set_option maxHeartbeats 4000000 in
set_option maxRecDepth 100000 in
theorem cnX11_layDress_1 (l : Launch) (dC : Nat → ClassId) (dI : Nat → Nat → Nat) (cy : Nat → ClassId) (h0 : Nat) (r : Nat → Nat) : ctI l (dC, dI) cy yX11_layDress cX11_layDress 7 .int 1 60 0 0 Unit [.ref h0, .int 0] [(h0, .inr (11, mFs r mv0))] (fun r _ => r = 0) (fun u => [(h0, .inr (11, mFs r mv0))]) := by
  refine ctI_of (by decide) (Nat.le_of_ble_eq_true rfl) (fun p e s m below meth c A ls Q hx hb hml hts hown hE hP hD hA hl ret => ?_)
  have hown : s.vm.findClass RX11 = some m.cls := hown
  have hS : va_S A s.heap s.heap [] := va_S.rf
  have hl : lv_has ls 7 [(0, .ref h0), (1, .int 0)] := hl
  refine lv_iload_n hx hb dX11_layDress_0 rfl (lv_at hl 1 rfl) ?_
  refine lv_istore_n (lv' := [(2, .int 0), (0, .ref h0), (1, .int 0)]) hx hb dX11_layDress_1 rfl hl (by decide) rfl (fun ls hl => ?_)
  refine lv_iconst (v := 0) hx hb dX11_layDress_2 (by decide) ?_
  refine lv_istore_n (lv' := [(3, .int 0), (2, .int 0), (0, .ref h0), (1, .int 0)]) hx hb dX11_layDress_3 rfl hl (by decide) rfl (fun ls hl => ?_)
  refine lv_iconst (v := 0) hx hb dX11_layDress_4 (by decide) ?_
  refine lv_istore (lv' := [(4, .int 0), (3, .int 0), (2, .int 0), (0, .ref h0), (1, .int 0)]) hx hb dX11_layDress_5 hl (by decide) rfl (fun ls hl => ?_)
  refine lv_aload_n hx hb dX11_layDress_7 rfl (lv_at hl 3 rfl) ?_
  refine va_get (D := (dC, dI)) (ci := 11) (v := .int 0) (C := RX11) (T := TX11) (N := 79) hx hb hts inB_11 hown hE.1 hP 0 rfl rfl 48 (by decide) (hts _ k_1368) (fun _ h9 => h9) rfl dX11_layDress_8 ?_
  refine lv_iconst (v := 1) hx hb dX11_layDress_11 (by decide) ?_
  refine lv_isub hx hb dX11_layDress_12 ?_
  refine tI (y := (-1)) (by decide) ?_
  refine lv_istore (lv' := [(5, .int (-1)), (4, .int 0), (3, .int 0), (2, .int 0), (0, .ref h0), (1, .int 0)]) hx hb dX11_layDress_13 hl (by decide) rfl (fun ls hl => ?_)
  refine lv_iload hx hb dX11_layDress_15 (lv_at hl 0 rfl) ?_
  refine lv_if_lt (tgt := 121) hx hb dX11_layDress_17 (by decide) (fun _ => ?_) (fun c0 => absurd (by decide) c0)
  refine lv_iload hx hb dX11_layDress_121 (lv_at hl 1 rfl) ?_
  exact ret 0 () _ _ _ _ _ _ rfl rfl (hP.sub [0] rfl) (hD.sub [0] (by decide) rfl) hS dX11_layDress_123 (Nat.le_of_ble_eq_true rfl) (Nat.le_of_ble_eq_true rfl)
set_option maxHeartbeats 4000000 in
set_option maxRecDepth 100000 in
theorem cnX11_illOfRow_1 (l : Launch) (dC : Nat → ClassId) (dI : Nat → Nat → Nat) (cy : Nat → ClassId) (h0 : Nat) (r : Nat → Nat) : ctI l (dC, dI) cy yX11_illOfRow cX11_illOfRow 3 .int 1 60 0 0 Unit [.ref h0] [(h0, .inr (11, mFs r mv0))] (fun r _ => r = 0) (fun u => [(h0, .inr (11, mFs r mv0))]) := by
  refine ctI_of (by decide) (Nat.le_of_ble_eq_true rfl) (fun p e s m below meth c A ls Q hx hb hml hts hown hE hP hD hA hl ret => ?_)
  have hown : s.vm.findClass RX11 = some m.cls := hown
  have hS : va_S A s.heap s.heap [] := va_S.rf
  have hl : lv_has ls 3 [(0, .ref h0)] := hl
  refine lv_iconst (v := 0) hx hb dX11_illOfRow_0 (by decide) ?_
  refine lv_istore_n (lv' := [(1, .int 0), (0, .ref h0)]) hx hb dX11_illOfRow_1 rfl hl (by decide) rfl (fun ls hl => ?_)
  refine lv_iconst (v := 0) hx hb dX11_illOfRow_2 (by decide) ?_
  refine lv_istore_n (lv' := [(2, .int 0), (1, .int 0), (0, .ref h0)]) hx hb dX11_illOfRow_3 rfl hl (by decide) rfl (fun ls hl => ?_)
  refine lv_iload_n hx hb dX11_illOfRow_4 rfl (lv_at hl 0 rfl) ?_
  refine lv_aload_n hx hb dX11_illOfRow_5 rfl (lv_at hl 2 rfl) ?_
  refine va_get (D := (dC, dI)) (ci := 11) (v := .int 0) (C := RX11) (T := TX11) (N := 79) hx hb hts inB_11 hown hE.1 hP 0 rfl rfl 48 (by decide) (hts _ k_1368) (fun _ h9 => h9) rfl dX11_illOfRow_6 ?_
  refine lv_icmp_ge (tgt := 50) hx hb dX11_illOfRow_9 (by decide) (fun _ => ?_) (fun c0 => absurd (by decide) c0)
  refine lv_iload_n hx hb dX11_illOfRow_50 rfl (lv_at hl 1 rfl) ?_
  exact ret 0 () _ _ _ _ _ _ rfl rfl (hP.sub [0] rfl) (hD.sub [0] (by decide) rfl) hS dX11_illOfRow_51 (Nat.le_of_ble_eq_true rfl) (Nat.le_of_ble_eq_true rfl)
theorem po_X11_isIn_291 (p0 : Int32) (hv : ¬ (0 ≤ p0 ∧ p0 ≤ 1)) (c1 : ¬ p0 < 0) : 1 < p0 := by simp only [fa_lt, fa_le, fa_eq, tl_0, tl_1] at *; omega
set_option maxHeartbeats 4000000 in
set_option maxRecDepth 100000 in
theorem cnX11_isIn_3 (l : Launch) (dC : Nat → ClassId) (dI : Nat → Nat → Nat) (cy : Nat → ClassId) (p0 : Int32) (hv : ¬ (0 ≤ p0 ∧ p0 ≤ 1)) : ctI l (dC, dI) cy yX11_isIn cX11_isIn 3 .boolean 1 60 0 0 Unit [.int p0, .int 0, .int 1] [] (fun r _ => r = 0) (fun u => []) := by
  refine ctI_of (by decide) (Nat.le_of_ble_eq_true rfl) (fun p e s m below meth c A ls Q hx hb hml hts hown hE hP hD hA hl ret => ?_)
  have hown : s.vm.findClass RX11 = some m.cls := hown
  have hS : va_S A s.heap s.heap [] := va_S.rf
  have hl : lv_has ls 3 [(0, .int p0), (1, .int 0), (2, .int 1)] := hl
  refine lv_iload_n hx hb dX11_isIn_0 rfl (lv_at hl 0 rfl) ?_
  refine lv_iload_n hx hb dX11_isIn_1 rfl (lv_at hl 1 rfl) ?_
  refine lv_icmp_lt (tgt := 14) hx hb dX11_isIn_2 (by decide) (fun c1 => ?_) (fun c1 => ?_)
  · skip
    refine lv_iconst (v := 0) hx hb dX11_isIn_14 (by decide) ?_
    exact ret 0 () _ _ _ _ _ _ rfl rfl (hP.sub [] rfl) (hD.sub [] (by decide) rfl) hS dX11_isIn_15 (Nat.le_of_ble_eq_true rfl) (Nat.le_of_ble_eq_true rfl)
  · skip
    refine lv_iload_n hx hb dX11_isIn_5 rfl (lv_at hl 0 rfl) ?_
    refine lv_iload_n hx hb dX11_isIn_6 rfl (lv_at hl 2 rfl) ?_
    refine lv_icmp_gt (tgt := 14) hx hb dX11_isIn_7 (by decide) (fun _ => ?_) (fun c0 => absurd (po_X11_isIn_291 p0 hv c1) c0)
    refine lv_iconst (v := 0) hx hb dX11_isIn_14 (by decide) ?_
    exact ret 0 () _ _ _ _ _ _ rfl rfl (hP.sub [] rfl) (hD.sub [] (by decide) rfl) hS dX11_isIn_15 (Nat.le_of_ble_eq_true rfl) (Nat.le_of_ble_eq_true rfl)
