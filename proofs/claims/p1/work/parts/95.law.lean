set_option maxHeartbeats 4000000 in
set_option maxRecDepth 100000 in
theorem law_head {p : Program} {l : Launch} {e : Env} {s : State} {m : MethodId} {below : List Frame} {meth : Method} {c : Code} {dC : Nat → ClassId} {dI : Nat → Nat → Nat} {cy : Nat → ClassId} {b : Nat} {xs : Nat → Int32} {Q : State → Prop} (hx : p.tables.exec = Jvm.exec) (hb : c.code = code) (hml : c.maxLocals = 4) (hown : s.vm.findClass RL = some m.cls) (hts : ∀ w ∈ BIG, w.before #[Value.ref b] s = true) (hE : ENV (dC, dI) cy s) (hX : va_X b 6 xs s s.heap) (hbl : b < s.heap.size) {H : Heap} {locs : List Loc} {ls : Array Slot} {q0 q1 : Nat} (hS : va_S (fun q : Nat => s.heap.size ≤ q) s.heap H locs) (hl : lv_has ls 4 [(3, .int 0), (2, .ref q1), (1, .ref q0), (0, .ref b)]) (out : ∀ (H : Heap) (locs : List Loc) (ls : Array Slot), va_S (fun q : Nat => s.heap.size ≤ q) s.heap H locs → W p l e room_1 s m #[Value.ref b] below meth c H locs 81 11738 Q (F0 m 1419 ls [])) : W p l e room_1 s m #[Value.ref b] below meth c H locs 81 11738 Q (F0 m 1413 ls []) := by
  have hbA : ¬ (fun q : Nat => s.heap.size ≤ q) b := Nat.not_le.mpr hbl
  refine lv_iinc (v := 6) (lv' := [(3, .int 6), (2, .ref q1), (1, .ref q0), (0, .ref b)]) hx hb dL_law_1413 hl (k := 0) rfl (by decide) (by decide) rfl (fun ls hl => ?_)
  refine lv_goto (tgt := 18) hx hb dL_law_1416 (by decide) ?_
  refine lv_iload_n hx hb dL_law_18 rfl (lv_at hl 0 rfl) ?_
  refine lv_aload_n hx hb dL_law_19 rfl (lv_at hl 3 rfl) ?_
  refine va_slen hx hb hX hbl hbA hS dL_law_20 ?_
  refine tI (y := 6) rfl ?_
  refine lv_bipush (v := 6) hx hb dL_law_21 (by decide) ?_
  refine lv_isub hx hb dL_law_23 ?_
  refine tI (y := 0) (by decide) ?_
  refine lv_icmp_gt (tgt := 1419) hx hb dL_law_24 (by decide) (fun _ => ?_) (fun c0 => absurd (by decide) c0)
  exact out _ _ _ hS
set_option maxHeartbeats 4000000 in
set_option maxRecDepth 100000 in
theorem law_0 {p : Program} {l : Launch} {e : Env} {s : State} {m : MethodId} {below : List Frame} {meth : Method} {c : Code} {dC : Nat → ClassId} {dI : Nat → Nat → Nat} {cy : Nat → ClassId} {b : Nat} {xs : Nat → Int32} {Q : State → Prop} (hx : p.tables.exec = Jvm.exec) (hb : c.code = code) (hml : c.maxLocals = 4) (hown : s.vm.findClass RL = some m.cls) (hts : ∀ w ∈ BIG, w.before #[Value.ref b] s = true) (hE : ENV (dC, dI) cy s) (hX : va_X b 6 xs s s.heap) (hbl : b < s.heap.size) {x0 y0 : Nat} {x r : Nat → Nat} {H : Heap} {locs : List Loc} {ls : Array Slot} (hP : va_P (dC, dI) vwCl (LW cy x0 y0 x r) H) (hD : va_D (fun q : Nat => s.heap.size ≤ q) (LW cy x0 y0 x r)) (hS : va_S (fun q : Nat => s.heap.size ≤ q) s.heap H locs) (hl : lv_has ls 4 [(3, .int 0), (2, .ref y0), (1, .ref x0), (0, .ref b)]) (fin : ∀ (H : Heap) (locs : List Loc) (ls : Array Slot), va_S (fun q : Nat => s.heap.size ≤ q) s.heap H locs → lv_has ls 4 [(3, .int 0), (2, .ref y0), (1, .ref x0), (0, .ref b)] → W p l e room_1 s m #[Value.ref b] below meth c H locs 81 11738 Q (F0 m 1413 ls [])) : W p l e room_1 s m #[Value.ref b] below meth c H locs 81 11738 Q (F0 m 236 ls []) := by
  have hA : ∀ q : Nat, s.heap.size ≤ q → (fun q : Nat => s.heap.size ≤ q) q := fun _ h => h
  have hbA : ¬ (fun q : Nat => s.heap.size ≤ q) b := Nat.not_le.mpr hbl
  have hP := hP.sub (ws' := [(x0, .inr (10, [.ref (x 0), .ref (x 2), .ref (x 26), .ref (x 21), .ref (x 20), .ref (x 25), .ref (x 29), .ref (x 31), .ref (x 35), .int 0])), ((x 0), .inr (9, [.ref (x 1), .int 0, .int 0, .int 0, .int 0, .int 0])), ((x 1), .inl (cy 0, 1600, .inl zF)), (y0, .inr (11, mFs r mv0)), ((r 0), .inl (cy 1, 1600, .inl zF))]) [0, 1, 2, 42, 43] rfl
  have hD := hD.sub (ws' := [(x0, .inr (10, [.ref (x 0), .ref (x 2), .ref (x 26), .ref (x 21), .ref (x 20), .ref (x 25), .ref (x 29), .ref (x 31), .ref (x 35), .int 0])), ((x 0), .inr (9, [.ref (x 1), .int 0, .int 0, .int 0, .int 0, .int 0])), ((x 1), .inl (cy 0, 1600, .inl zF)), (y0, .inr (11, mFs r mv0)), ((r 0), .inl (cy 1, 1600, .inl zF))]) [0, 1, 2, 42, 43] (by decide) rfl
  refine lv_aload_n hx hb dL_law_236 rfl (lv_at hl 2 rfl) ?_
  refine lv_aload_n hx hb dL_law_237 rfl (lv_at hl 3 rfl) ?_
  refine lv_iload_n hx hb dL_law_238 rfl (lv_at hl 0 rfl) ?_
  refine lv_iconst (v := 1) hx hb dL_law_239 (by decide) ?_
  refine lv_iadd hx hb dL_law_240 ?_
  refine tI (y := 1) (by decide) ?_
  refine va_sld hx hb hX hbl hbA hS (vp_in_nI (n := 1) (by decide) (by decide)) dL_law_241 ?_
  refine tI (y := xs 1) (congrArg xs (nI_clamp (n := 1) (by decide))) ?_
  refine lv_aload_n hx hb dL_law_242 rfl (lv_at hl 3 rfl) ?_
  refine lv_iload_n hx hb dL_law_243 rfl (lv_at hl 0 rfl) ?_
  refine lv_iconst (v := 2) hx hb dL_law_244 (by decide) ?_
  refine lv_iadd hx hb dL_law_245 ?_
  refine tI (y := 2) (by decide) ?_
  refine va_sld hx hb hX hbl hbA hS (vp_in_nI (n := 2) (by decide) (by decide)) dL_law_246 ?_
  refine tI (y := xs 2) (congrArg xs (nI_clamp (n := 2) (by decide))) ?_
  refine lv_aload_n hx hb dL_law_247 rfl (lv_at hl 3 rfl) ?_
  refine lv_iload_n hx hb dL_law_248 rfl (lv_at hl 0 rfl) ?_
  refine lv_iconst (v := 3) hx hb dL_law_249 (by decide) ?_
  refine lv_iadd hx hb dL_law_250 ?_
  refine tI (y := 3) (by decide) ?_
  refine va_sld hx hb hX hbl hbA hS (vp_in_nI (n := 3) (by decide) (by decide)) dL_law_251 ?_
  refine tI (y := xs 3) (congrArg xs (nI_clamp (n := 3) (by decide))) ?_
  refine lv_aload_n hx hb dL_law_252 rfl (lv_at hl 3 rfl) ?_
  refine lv_iload_n hx hb dL_law_253 rfl (lv_at hl 0 rfl) ?_
  refine lv_iconst (v := 4) hx hb dL_law_254 (by decide) ?_
  refine lv_iadd hx hb dL_law_255 ?_
  refine tI (y := 4) (by decide) ?_
  refine va_sld hx hb hX hbl hbA hS (vp_in_nI (n := 4) (by decide) (by decide)) dL_law_256 ?_
  refine tI (y := xs 4) (congrArg xs (nI_clamp (n := 4) (by decide))) ?_
  refine lv_aload_n hx hb dL_law_257 rfl (lv_at hl 3 rfl) ?_
  refine lv_iload_n hx hb dL_law_258 rfl (lv_at hl 0 rfl) ?_
  refine lv_iconst (v := 5) hx hb dL_law_259 (by decide) ?_
  refine lv_iadd hx hb dL_law_260 ?_
  refine tI (y := 5) (by decide) ?_
  refine va_sld hx hb hX hbl hbA hS (vp_in_nI (n := 5) (by decide) (by decide)) dL_law_261 ?_
  refine tI (y := xs 5) (congrArg xs (nI_clamp (n := 5) (by decide))) ?_
  refine caVi (n := 5) (wr := [(y0, .inr (11, mFs r mv0)), ((r 0), .inl (cy 1, 1600, .inl zF))]) (rest := []) hx hb hml hown hts hE hP hD hS hA (cnX10_feed_1 l dC dI cy x0 (x 0) (x 1) (x 2) (x 26) (x 21) (x 20) (x 25) (x 29) (x 31) (x 35) zF (xs 1) (xs 2) (xs 3) (xs 4) (xs 5)) k_522 k_523 k_524 k_101 k_525 (by decide +kernel) ⟨Nat.le_of_ble_eq_true rfl, Nat.le_of_ble_eq_true rfl⟩ [0, 1, 2] [3, 4] rfl rfl rfl (by decide) (by decide) (by decide) 0 10 rfl rfl rfl hl.1 rfl (Nat.le_of_ble_eq_true rfl) dL_law_262 ⟨Nat.le_of_ble_eq_true rfl, Nat.le_of_ble_eq_true rfl⟩ (fun rr u H locs hw hP hD hS => ?_)
  have hP : va_P (dC, dI) vwCl [(y0, .inr (11, mFs r mv0)), ((r 0), .inl (cy 1, 1600, .inl zF))] H := hP
  have hD : va_D (fun q : Nat => s.heap.size ≤ q) [(y0, .inr (11, mFs r mv0)), ((r 0), .inl (cy 1, 1600, .inl zF))] := hD
  refine tI (y := (F_feed (xs 1) (xs 2) (xs 3) (xs 4) (xs 5))) hw ?_
  refine lv_aload_n hx hb dL_law_265 rfl (lv_at hl 1 rfl) ?_
  refine lv_aload_n hx hb dL_law_266 rfl (lv_at hl 3 rfl) ?_
  refine lv_iload_n hx hb dL_law_267 rfl (lv_at hl 0 rfl) ?_
  refine lv_iconst (v := 1) hx hb dL_law_268 (by decide) ?_
  refine lv_iadd hx hb dL_law_269 ?_
  refine tI (y := 1) (by decide) ?_
  refine va_sld hx hb hX hbl hbA hS (vp_in_nI (n := 1) (by decide) (by decide)) dL_law_270 ?_
  refine tI (y := xs 1) (congrArg xs (nI_clamp (n := 1) (by decide))) ?_
  refine lv_aload_n hx hb dL_law_271 rfl (lv_at hl 3 rfl) ?_
  refine lv_iload_n hx hb dL_law_272 rfl (lv_at hl 0 rfl) ?_
  refine lv_iconst (v := 2) hx hb dL_law_273 (by decide) ?_
  refine lv_iadd hx hb dL_law_274 ?_
  refine tI (y := 2) (by decide) ?_
  refine va_sld hx hb hX hbl hbA hS (vp_in_nI (n := 2) (by decide) (by decide)) dL_law_275 ?_
  refine tI (y := xs 2) (congrArg xs (nI_clamp (n := 2) (by decide))) ?_
  refine lv_aload_n hx hb dL_law_276 rfl (lv_at hl 3 rfl) ?_
  refine lv_iload_n hx hb dL_law_277 rfl (lv_at hl 0 rfl) ?_
  refine lv_iconst (v := 3) hx hb dL_law_278 (by decide) ?_
  refine lv_iadd hx hb dL_law_279 ?_
  refine tI (y := 3) (by decide) ?_
  refine va_sld hx hb hX hbl hbA hS (vp_in_nI (n := 3) (by decide) (by decide)) dL_law_280 ?_
  refine tI (y := xs 3) (congrArg xs (nI_clamp (n := 3) (by decide))) ?_
  refine lv_aload_n hx hb dL_law_281 rfl (lv_at hl 3 rfl) ?_
  refine lv_iload_n hx hb dL_law_282 rfl (lv_at hl 0 rfl) ?_
  refine lv_iconst (v := 4) hx hb dL_law_283 (by decide) ?_
  refine lv_iadd hx hb dL_law_284 ?_
  refine tI (y := 4) (by decide) ?_
  refine va_sld hx hb hX hbl hbA hS (vp_in_nI (n := 4) (by decide) (by decide)) dL_law_285 ?_
  refine tI (y := xs 4) (congrArg xs (nI_clamp (n := 4) (by decide))) ?_
  refine lv_aload_n hx hb dL_law_286 rfl (lv_at hl 3 rfl) ?_
  refine lv_iload_n hx hb dL_law_287 rfl (lv_at hl 0 rfl) ?_
  refine lv_iconst (v := 5) hx hb dL_law_288 (by decide) ?_
  refine lv_iadd hx hb dL_law_289 ?_
  refine tI (y := 5) (by decide) ?_
  refine va_sld hx hb hX hbl hbA hS (vp_in_nI (n := 5) (by decide) (by decide)) dL_law_290 ?_
  refine tI (y := xs 5) (congrArg xs (nI_clamp (n := 5) (by decide))) ?_
  refine caVi (n := 5) (wr := []) (rest := [.int (F_feed (xs 1) (xs 2) (xs 3) (xs 4) (xs 5))]) hx hb hml hown hts hE hP hD hS hA (cnX11_feed_1 l dC dI cy y0 r zF (xs 1) (xs 2) (xs 3) (xs 4) (xs 5)) k_1559 k_1560 k_1561 k_114 k_1562 (by decide +kernel) ⟨Nat.le_of_ble_eq_true rfl, Nat.le_of_ble_eq_true rfl⟩ [0, 1] [] rfl rfl rfl (by decide) (by decide) (by decide) 0 11 rfl rfl rfl hl.1 rfl (Nat.le_of_ble_eq_true rfl) dL_law_291 ⟨Nat.le_of_ble_eq_true rfl, Nat.le_of_ble_eq_true rfl⟩ (fun rr u H locs hw hP hD hS => ?_)
  have hP : va_P (dC, dI) vwCl [] H := hP
  have hD : va_D (fun q : Nat => s.heap.size ≤ q) [] := hD
  refine tI (y := (F_feed (xs 1) (xs 2) (xs 3) (xs 4) (xs 5))) hw ?_
  refine lv_icmp_eq (tgt := 1413) hx hb dL_law_294 (by decide) (fun _ => ?_) (fun c0 => absurd rfl c0)
  exact fin _ _ _ hS hl
set_option maxHeartbeats 4000000 in
set_option maxRecDepth 100000 in
theorem law_1 {p : Program} {l : Launch} {e : Env} {s : State} {m : MethodId} {below : List Frame} {meth : Method} {c : Code} {dC : Nat → ClassId} {dI : Nat → Nat → Nat} {cy : Nat → ClassId} {b : Nat} {xs : Nat → Int32} {Q : State → Prop} (hx : p.tables.exec = Jvm.exec) (hb : c.code = code) (hml : c.maxLocals = 4) (hown : s.vm.findClass RL = some m.cls) (hts : ∀ w ∈ BIG, w.before #[Value.ref b] s = true) (hE : ENV (dC, dI) cy s) (hX : va_X b 6 xs s s.heap) (hbl : b < s.heap.size) {x0 y0 : Nat} {x r : Nat → Nat} {H : Heap} {locs : List Loc} {ls : Array Slot} (hP : va_P (dC, dI) vwCl (LW cy x0 y0 x r) H) (hD : va_D (fun q : Nat => s.heap.size ≤ q) (LW cy x0 y0 x r)) (hS : va_S (fun q : Nat => s.heap.size ≤ q) s.heap H locs) (hl : lv_has ls 4 [(3, .int 0), (2, .ref y0), (1, .ref x0), (0, .ref b)]) (fin : ∀ (H : Heap) (locs : List Loc) (ls : Array Slot), va_S (fun q : Nat => s.heap.size ≤ q) s.heap H locs → lv_has ls 4 [(3, .int 0), (2, .ref y0), (1, .ref x0), (0, .ref b)] → W p l e room_1 s m #[Value.ref b] below meth c H locs 81 11738 Q (F0 m 1413 ls [])) : W p l e room_1 s m #[Value.ref b] below meth c H locs 81 11738 Q (F0 m 299 ls []) := by
  have hA : ∀ q : Nat, s.heap.size ≤ q → (fun q : Nat => s.heap.size ≤ q) q := fun _ h => h
  have hbA : ¬ (fun q : Nat => s.heap.size ≤ q) b := Nat.not_le.mpr hbl
  have hP := hP.sub (ws' := [(x0, .inr (10, [.ref (x 0), .ref (x 2), .ref (x 26), .ref (x 21), .ref (x 20), .ref (x 25), .ref (x 29), .ref (x 31), .ref (x 35), .int 0])), ((x 0), .inr (9, [.ref (x 1), .int 0, .int 0, .int 0, .int 0, .int 0])), (y0, .inr (11, mFs r mv0))]) [0, 1, 42] rfl
  have hD := hD.sub (ws' := [(x0, .inr (10, [.ref (x 0), .ref (x 2), .ref (x 26), .ref (x 21), .ref (x 20), .ref (x 25), .ref (x 29), .ref (x 31), .ref (x 35), .int 0])), ((x 0), .inr (9, [.ref (x 1), .int 0, .int 0, .int 0, .int 0, .int 0])), (y0, .inr (11, mFs r mv0))]) [0, 1, 42] (by decide) rfl
  refine lv_aload_n hx hb dL_law_299 rfl (lv_at hl 2 rfl) ?_
  refine lv_aload_n hx hb dL_law_300 rfl (lv_at hl 3 rfl) ?_
  refine lv_iload_n hx hb dL_law_301 rfl (lv_at hl 0 rfl) ?_
  refine lv_iconst (v := 1) hx hb dL_law_302 (by decide) ?_
  refine lv_iadd hx hb dL_law_303 ?_
  refine tI (y := 1) (by decide) ?_
  refine va_sld hx hb hX hbl hbA hS (vp_in_nI (n := 1) (by decide) (by decide)) dL_law_304 ?_
  refine tI (y := xs 1) (congrArg xs (nI_clamp (n := 1) (by decide))) ?_
  refine caVi (n := 1) (wr := [(y0, .inr (11, mFs r mv0))]) (rest := []) hx hb hml hown hts hE hP hD hS hA (cnX10_end_1 l dC dI cy x0 (x 0) (x 2) (x 26) (x 21) (x 20) (x 25) (x 29) (x 31) (x 35) (x 1) (xs 1)) k_534 k_535 k_536 k_101 k_537 (by decide +kernel) ⟨Nat.le_of_ble_eq_true rfl, Nat.le_of_ble_eq_true rfl⟩ [0, 1] [2] rfl rfl rfl (by decide) (by decide) (by decide) 0 10 rfl rfl rfl hl.1 rfl (Nat.le_of_ble_eq_true rfl) dL_law_305 ⟨Nat.le_of_ble_eq_true rfl, Nat.le_of_ble_eq_true rfl⟩ (fun rr u H locs hw hP hD hS => ?_)
  have hP : va_P (dC, dI) vwCl [(y0, .inr (11, mFs r mv0))] H := hP
  have hD : va_D (fun q : Nat => s.heap.size ≤ q) [(y0, .inr (11, mFs r mv0))] := hD
  refine tI (y := (F_end (xs 1))) hw ?_
  refine lv_aload_n hx hb dL_law_308 rfl (lv_at hl 1 rfl) ?_
  refine lv_aload_n hx hb dL_law_309 rfl (lv_at hl 3 rfl) ?_
  refine lv_iload_n hx hb dL_law_310 rfl (lv_at hl 0 rfl) ?_
  refine lv_iconst (v := 1) hx hb dL_law_311 (by decide) ?_
  refine lv_iadd hx hb dL_law_312 ?_
  refine tI (y := 1) (by decide) ?_
  refine va_sld hx hb hX hbl hbA hS (vp_in_nI (n := 1) (by decide) (by decide)) dL_law_313 ?_
  refine tI (y := xs 1) (congrArg xs (nI_clamp (n := 1) (by decide))) ?_
  refine caVi (n := 1) (wr := []) (rest := [.int (F_end (xs 1))]) hx hb hml hown hts hE hP hD hS hA (cnX11_end_1 l dC dI cy y0 r (xs 1)) k_1567 k_1568 k_1569 k_114 k_1570 (by decide +kernel) ⟨Nat.le_of_ble_eq_true rfl, Nat.le_of_ble_eq_true rfl⟩ [0] [] rfl rfl rfl (by decide) (by decide) (by decide) 0 11 rfl rfl rfl hl.1 rfl (Nat.le_of_ble_eq_true rfl) dL_law_314 ⟨Nat.le_of_ble_eq_true rfl, Nat.le_of_ble_eq_true rfl⟩ (fun rr u H locs hw hP hD hS => ?_)
  have hP : va_P (dC, dI) vwCl [] H := hP
  have hD : va_D (fun q : Nat => s.heap.size ≤ q) [] := hD
  refine tI (y := (F_end (xs 1))) hw ?_
  refine lv_icmp_eq (tgt := 1413) hx hb dL_law_317 (by decide) (fun _ => ?_) (fun c0 => absurd rfl c0)
  exact fin _ _ _ hS hl
set_option maxHeartbeats 4000000 in
set_option maxRecDepth 100000 in
theorem law_2 {p : Program} {l : Launch} {e : Env} {s : State} {m : MethodId} {below : List Frame} {meth : Method} {c : Code} {dC : Nat → ClassId} {dI : Nat → Nat → Nat} {cy : Nat → ClassId} {b : Nat} {xs : Nat → Int32} {Q : State → Prop} (hx : p.tables.exec = Jvm.exec) (hb : c.code = code) (hml : c.maxLocals = 4) (hown : s.vm.findClass RL = some m.cls) (hts : ∀ w ∈ BIG, w.before #[Value.ref b] s = true) (hE : ENV (dC, dI) cy s) (hX : va_X b 6 xs s s.heap) (hbl : b < s.heap.size) {x0 y0 : Nat} {x r : Nat → Nat} {H : Heap} {locs : List Loc} {ls : Array Slot} (hP : va_P (dC, dI) vwCl (LW cy x0 y0 x r) H) (hD : va_D (fun q : Nat => s.heap.size ≤ q) (LW cy x0 y0 x r)) (hS : va_S (fun q : Nat => s.heap.size ≤ q) s.heap H locs) (hl : lv_has ls 4 [(3, .int 0), (2, .ref y0), (1, .ref x0), (0, .ref b)]) (fin : ∀ (H : Heap) (locs : List Loc) (ls : Array Slot), va_S (fun q : Nat => s.heap.size ≤ q) s.heap H locs → lv_has ls 4 [(3, .int 0), (2, .ref y0), (1, .ref x0), (0, .ref b)] → W p l e room_1 s m #[Value.ref b] below meth c H locs 81 11738 Q (F0 m 1413 ls [])) : W p l e room_1 s m #[Value.ref b] below meth c H locs 81 11738 Q (F0 m 322 ls []) := by
  have hA : ∀ q : Nat, s.heap.size ≤ q → (fun q : Nat => s.heap.size ≤ q) q := fun _ h => h
  have hbA : ¬ (fun q : Nat => s.heap.size ≤ q) b := Nat.not_le.mpr hbl
  have hP := hP.sub (ws' := [(x0, .inr (10, [.ref (x 0), .ref (x 2), .ref (x 26), .ref (x 21), .ref (x 20), .ref (x 25), .ref (x 29), .ref (x 31), .ref (x 35), .int 0])), ((x 2), .inr (6, [.ref (x 0), .ref (x 3), .ref (x 11), .ref (x 12), .int 0, .int 0, .int (-1)])), ((x 3), .inr (7, [.ref (x 4), .ref (x 5), .ref (x 6), .int 0, .int 0, .int 10, .int 150, .int 2, .int 0, .int 0])), ((x 6), .inr (4, [.ref (x 7), .ref (x 8), .ref (x 9), .ref (x 10), .int 0, .int 0])), ((x 0), .inr (9, [.ref (x 1), .int 0, .int 0, .int 0, .int 0, .int 0])), ((x 26), .inr (7, [.ref (x 13), .ref (x 14), .ref (x 15), .int 0, .int 0, .int 10, .int 150, .int 2, .int 0, .int 0])), ((x 13), .inl (cy 1, 18, .inl zF)), ((x 4), .inl (cy 1, 18, .inl zF)), ((x 14), .inl (cy 1, 24, .inl zF)), ((x 5), .inl (cy 1, 24, .inl zF)), ((x 15), .inr (4, [.ref (x 16), .ref (x 17), .ref (x 18), .ref (x 19), .int 0, .int 0])), ((x 7), .inl (cy 1, 300, .inl zF)), ((x 16), .inl (cy 1, 300, .inl zF)), ((x 8), .inl (cy 1, 300, .inl zF)), ((x 17), .inl (cy 1, 300, .inl zF)), ((x 22), .inl (cy 1, 44, .inl cF)), ((x 21), .inr (1, [.ref (x 26), .ref (x 22)])), ((x 20), .inr (5, [.ref (x 21), .ref (x 24), .ref (x 23), .int 0, .int 0, .int 0, .int 0])), ((x 24), .inl (cy 1, 1804, .inl (va_cpy cF zF 0 0 44))), ((x 31), .inr (0, [.ref (x 26), .ref (x 21), .ref (x 32), .int 0, .ref (x 33), .ref (x 34), .int 0, .int 0])), ((x 35), .inr (8, [.ref (x 26), .ref (x 36), .ref (x 37), .ref (x 38), .ref (x 39), .int 0, .ref (x 40)])), ((x 40), .inl (cy 1, 21, .inl (fiF zF (-1) 21))), (y0, .inr (11, mFs r mv0)), ((r 60), .inl (cy 1, 39, .inl zF)), ((r 59), .inl (cy 1, 39, .inl zF)), ((r 77), .inl (cy 3, 3, .inl zF))]) [0, 3, 4, 7, 1, 27, 14, 5, 15, 6, 16, 8, 17, 9, 18, 23, 22, 21, 25, 32, 36, 41, 42, 67, 66, 79] rfl
  have hD := hD.sub (ws' := [(x0, .inr (10, [.ref (x 0), .ref (x 2), .ref (x 26), .ref (x 21), .ref (x 20), .ref (x 25), .ref (x 29), .ref (x 31), .ref (x 35), .int 0])), ((x 2), .inr (6, [.ref (x 0), .ref (x 3), .ref (x 11), .ref (x 12), .int 0, .int 0, .int (-1)])), ((x 3), .inr (7, [.ref (x 4), .ref (x 5), .ref (x 6), .int 0, .int 0, .int 10, .int 150, .int 2, .int 0, .int 0])), ((x 6), .inr (4, [.ref (x 7), .ref (x 8), .ref (x 9), .ref (x 10), .int 0, .int 0])), ((x 0), .inr (9, [.ref (x 1), .int 0, .int 0, .int 0, .int 0, .int 0])), ((x 26), .inr (7, [.ref (x 13), .ref (x 14), .ref (x 15), .int 0, .int 0, .int 10, .int 150, .int 2, .int 0, .int 0])), ((x 13), .inl (cy 1, 18, .inl zF)), ((x 4), .inl (cy 1, 18, .inl zF)), ((x 14), .inl (cy 1, 24, .inl zF)), ((x 5), .inl (cy 1, 24, .inl zF)), ((x 15), .inr (4, [.ref (x 16), .ref (x 17), .ref (x 18), .ref (x 19), .int 0, .int 0])), ((x 7), .inl (cy 1, 300, .inl zF)), ((x 16), .inl (cy 1, 300, .inl zF)), ((x 8), .inl (cy 1, 300, .inl zF)), ((x 17), .inl (cy 1, 300, .inl zF)), ((x 22), .inl (cy 1, 44, .inl cF)), ((x 21), .inr (1, [.ref (x 26), .ref (x 22)])), ((x 20), .inr (5, [.ref (x 21), .ref (x 24), .ref (x 23), .int 0, .int 0, .int 0, .int 0])), ((x 24), .inl (cy 1, 1804, .inl (va_cpy cF zF 0 0 44))), ((x 31), .inr (0, [.ref (x 26), .ref (x 21), .ref (x 32), .int 0, .ref (x 33), .ref (x 34), .int 0, .int 0])), ((x 35), .inr (8, [.ref (x 26), .ref (x 36), .ref (x 37), .ref (x 38), .ref (x 39), .int 0, .ref (x 40)])), ((x 40), .inl (cy 1, 21, .inl (fiF zF (-1) 21))), (y0, .inr (11, mFs r mv0)), ((r 60), .inl (cy 1, 39, .inl zF)), ((r 59), .inl (cy 1, 39, .inl zF)), ((r 77), .inl (cy 3, 3, .inl zF))]) [0, 3, 4, 7, 1, 27, 14, 5, 15, 6, 16, 8, 17, 9, 18, 23, 22, 21, 25, 32, 36, 41, 42, 67, 66, 79] (by decide) rfl
  refine lv_aload_n hx hb dL_law_322 rfl (lv_at hl 2 rfl) ?_
  refine caVi (n := 0) (wr := [(y0, .inr (11, mFs r mv0)), ((r 60), .inl (cy 1, 39, .inl zF)), ((r 59), .inl (cy 1, 39, .inl zF)), ((r 77), .inl (cy 3, 3, .inl zF))]) (rest := []) hx hb hml hown hts hE hP hD hS hA (cnX10_regiment_1 l dC dI cy x0 (x 2) (x 3) (x 6) (x 0) (x 26) (x 13) (x 4) (x 14) (x 5) (x 15) (x 7) (x 16) (x 8) (x 17) (x 22) (x 21) (x 20) (x 24) (x 31) (x 35) (x 40) (x 25) (x 29) (x 11) (x 12) (x 9) (x 10) (x 1) (x 18) (x 19) (x 23) (va_cpy cF zF 0 0 44) (x 32) (x 33) (x 34) (x 36) (x 37) (x 38) (x 39)) k_538 k_539 k_540 k_101 k_541 (by decide +kernel) ⟨Nat.le_of_ble_eq_true rfl, Nat.le_of_ble_eq_true rfl⟩ [0, 1, 2, 3, 4, 5, 6, 7, 8, 9, 10, 11, 12, 13, 14, 15, 16, 17, 18, 19, 20, 21] [22, 23, 24, 25] rfl rfl rfl (by decide) (by decide) (by decide) 0 10 rfl rfl rfl hl.1 rfl (Nat.le_of_ble_eq_true rfl) dL_law_323 ⟨Nat.le_of_ble_eq_true rfl, Nat.le_of_ble_eq_true rfl⟩ (fun rr u H locs hw hP hD hS => ?_)
  have hP : va_P (dC, dI) vwCl [(y0, .inr (11, mFs r mv0)), ((r 60), .inl (cy 1, 39, .inl zF)), ((r 59), .inl (cy 1, 39, .inl zF)), ((r 77), .inl (cy 3, 3, .inl zF))] H := hP
  have hD : va_D (fun q : Nat => s.heap.size ≤ q) [(y0, .inr (11, mFs r mv0)), ((r 60), .inl (cy 1, 39, .inl zF)), ((r 59), .inl (cy 1, 39, .inl zF)), ((r 77), .inl (cy 3, 3, .inl zF))] := hD
  refine tI (y := (F_regiment)) hw ?_
  refine lv_aload_n hx hb dL_law_326 rfl (lv_at hl 1 rfl) ?_
  refine caVi (n := 0) (wr := []) (rest := [.int (F_regiment)]) hx hb hml hown hts hE hP hD hS hA (cnX11_regiment_1 l dC dI cy y0 r) k_1571 k_1572 k_1573 k_114 k_1574 (by decide +kernel) ⟨Nat.le_of_ble_eq_true rfl, Nat.le_of_ble_eq_true rfl⟩ [0, 1, 2, 3] [] rfl rfl rfl (by decide) (by decide) (by decide) 0 11 rfl rfl rfl hl.1 rfl (Nat.le_of_ble_eq_true rfl) dL_law_327 ⟨Nat.le_of_ble_eq_true rfl, Nat.le_of_ble_eq_true rfl⟩ (fun rr u H locs hw hP hD hS => ?_)
  have hP : va_P (dC, dI) vwCl [] H := hP
  have hD : va_D (fun q : Nat => s.heap.size ≤ q) [] := hD
  refine tI (y := (F_regiment)) hw ?_
  refine lv_icmp_eq (tgt := 1413) hx hb dL_law_330 (by decide) (fun _ => ?_) (fun c0 => absurd rfl c0)
  exact fin _ _ _ hS hl
set_option maxHeartbeats 4000000 in
set_option maxRecDepth 100000 in
theorem law_3 {p : Program} {l : Launch} {e : Env} {s : State} {m : MethodId} {below : List Frame} {meth : Method} {c : Code} {dC : Nat → ClassId} {dI : Nat → Nat → Nat} {cy : Nat → ClassId} {b : Nat} {xs : Nat → Int32} {Q : State → Prop} (hx : p.tables.exec = Jvm.exec) (hb : c.code = code) (hml : c.maxLocals = 4) (hown : s.vm.findClass RL = some m.cls) (hts : ∀ w ∈ BIG, w.before #[Value.ref b] s = true) (hE : ENV (dC, dI) cy s) (hX : va_X b 6 xs s s.heap) (hbl : b < s.heap.size) {x0 y0 : Nat} {x r : Nat → Nat} {H : Heap} {locs : List Loc} {ls : Array Slot} (hP : va_P (dC, dI) vwCl (LW cy x0 y0 x r) H) (hD : va_D (fun q : Nat => s.heap.size ≤ q) (LW cy x0 y0 x r)) (hS : va_S (fun q : Nat => s.heap.size ≤ q) s.heap H locs) (hl : lv_has ls 4 [(3, .int 0), (2, .ref y0), (1, .ref x0), (0, .ref b)]) (fin : ∀ (H : Heap) (locs : List Loc) (ls : Array Slot), va_S (fun q : Nat => s.heap.size ≤ q) s.heap H locs → lv_has ls 4 [(3, .int 0), (2, .ref y0), (1, .ref x0), (0, .ref b)] → W p l e room_1 s m #[Value.ref b] below meth c H locs 81 11738 Q (F0 m 1413 ls [])) : W p l e room_1 s m #[Value.ref b] below meth c H locs 81 11738 Q (F0 m 335 ls []) := by
  have hA : ∀ q : Nat, s.heap.size ≤ q → (fun q : Nat => s.heap.size ≤ q) q := fun _ h => h
  have hbA : ¬ (fun q : Nat => s.heap.size ≤ q) b := Nat.not_le.mpr hbl
  have hP := hP.sub (ws' := [(x0, .inr (10, [.ref (x 0), .ref (x 2), .ref (x 26), .ref (x 21), .ref (x 20), .ref (x 25), .ref (x 29), .ref (x 31), .ref (x 35), .int 0])), ((x 2), .inr (6, [.ref (x 0), .ref (x 3), .ref (x 11), .ref (x 12), .int 0, .int 0, .int (-1)])), (y0, .inr (11, mFs r mv0))]) [0, 3, 42] rfl
  have hD := hD.sub (ws' := [(x0, .inr (10, [.ref (x 0), .ref (x 2), .ref (x 26), .ref (x 21), .ref (x 20), .ref (x 25), .ref (x 29), .ref (x 31), .ref (x 35), .int 0])), ((x 2), .inr (6, [.ref (x 0), .ref (x 3), .ref (x 11), .ref (x 12), .int 0, .int 0, .int (-1)])), (y0, .inr (11, mFs r mv0))]) [0, 3, 42] (by decide) rfl
  refine lv_aload_n hx hb dL_law_335 rfl (lv_at hl 2 rfl) ?_
  refine lv_aload_n hx hb dL_law_336 rfl (lv_at hl 3 rfl) ?_
  refine lv_iload_n hx hb dL_law_337 rfl (lv_at hl 0 rfl) ?_
  refine lv_iconst (v := 1) hx hb dL_law_338 (by decide) ?_
  refine lv_iadd hx hb dL_law_339 ?_
  refine tI (y := 1) (by decide) ?_
  refine va_sld hx hb hX hbl hbA hS (vp_in_nI (n := 1) (by decide) (by decide)) dL_law_340 ?_
  refine tI (y := xs 1) (congrArg xs (nI_clamp (n := 1) (by decide))) ?_
  refine caVi (n := 1) (wr := [(y0, .inr (11, mFs r mv0))]) (rest := []) hx hb hml hown hts hE hP hD hS hA (cnX10_fault_1 l dC dI cy x0 (x 2) (x 0) (x 26) (x 21) (x 20) (x 25) (x 29) (x 31) (x 35) (x 3) (x 11) (x 12) (xs 1)) k_794 k_795 k_796 k_101 k_797 (by decide +kernel) ⟨Nat.le_of_ble_eq_true rfl, Nat.le_of_ble_eq_true rfl⟩ [0, 1] [2] rfl rfl rfl (by decide) (by decide) (by decide) 0 10 rfl rfl rfl hl.1 rfl (Nat.le_of_ble_eq_true rfl) dL_law_341 ⟨Nat.le_of_ble_eq_true rfl, Nat.le_of_ble_eq_true rfl⟩ (fun rr u H locs hw hP hD hS => ?_)
  have hP : va_P (dC, dI) vwCl [(y0, .inr (11, mFs r mv0))] H := hP
  have hD : va_D (fun q : Nat => s.heap.size ≤ q) [(y0, .inr (11, mFs r mv0))] := hD
  refine tI (y := (F_fault (xs 1))) hw ?_
  refine lv_aload_n hx hb dL_law_344 rfl (lv_at hl 1 rfl) ?_
  refine lv_aload_n hx hb dL_law_345 rfl (lv_at hl 3 rfl) ?_
  refine lv_iload_n hx hb dL_law_346 rfl (lv_at hl 0 rfl) ?_
  refine lv_iconst (v := 1) hx hb dL_law_347 (by decide) ?_
  refine lv_iadd hx hb dL_law_348 ?_
  refine tI (y := 1) (by decide) ?_
  refine va_sld hx hb hX hbl hbA hS (vp_in_nI (n := 1) (by decide) (by decide)) dL_law_349 ?_
  refine tI (y := xs 1) (congrArg xs (nI_clamp (n := 1) (by decide))) ?_
  refine caVi (n := 1) (wr := []) (rest := [.int (F_fault (xs 1))]) hx hb hml hown hts hE hP hD hS hA (cnX11_fault_1 l dC dI cy y0 r (xs 1)) k_1724 k_1725 k_1726 k_114 k_1727 (by decide +kernel) ⟨Nat.le_of_ble_eq_true rfl, Nat.le_of_ble_eq_true rfl⟩ [0] [] rfl rfl rfl (by decide) (by decide) (by decide) 0 11 rfl rfl rfl hl.1 rfl (Nat.le_of_ble_eq_true rfl) dL_law_350 ⟨Nat.le_of_ble_eq_true rfl, Nat.le_of_ble_eq_true rfl⟩ (fun rr u H locs hw hP hD hS => ?_)
  have hP : va_P (dC, dI) vwCl [] H := hP
  have hD : va_D (fun q : Nat => s.heap.size ≤ q) [] := hD
  refine tI (y := (F_fault (xs 1))) hw ?_
  refine lv_icmp_eq (tgt := 1413) hx hb dL_law_353 (by decide) (fun _ => ?_) (fun c0 => absurd rfl c0)
  exact fin _ _ _ hS hl
set_option maxHeartbeats 4000000 in
set_option maxRecDepth 100000 in
theorem law_4 {p : Program} {l : Launch} {e : Env} {s : State} {m : MethodId} {below : List Frame} {meth : Method} {c : Code} {dC : Nat → ClassId} {dI : Nat → Nat → Nat} {cy : Nat → ClassId} {b : Nat} {xs : Nat → Int32} {Q : State → Prop} (hx : p.tables.exec = Jvm.exec) (hb : c.code = code) (hml : c.maxLocals = 4) (hown : s.vm.findClass RL = some m.cls) (hts : ∀ w ∈ BIG, w.before #[Value.ref b] s = true) (hE : ENV (dC, dI) cy s) (hX : va_X b 6 xs s s.heap) (hbl : b < s.heap.size) {x0 y0 : Nat} {x r : Nat → Nat} {H : Heap} {locs : List Loc} {ls : Array Slot} (hP : va_P (dC, dI) vwCl (LW cy x0 y0 x r) H) (hD : va_D (fun q : Nat => s.heap.size ≤ q) (LW cy x0 y0 x r)) (hS : va_S (fun q : Nat => s.heap.size ≤ q) s.heap H locs) (hl : lv_has ls 4 [(3, .int 0), (2, .ref y0), (1, .ref x0), (0, .ref b)]) (fin : ∀ (H : Heap) (locs : List Loc) (ls : Array Slot), va_S (fun q : Nat => s.heap.size ≤ q) s.heap H locs → lv_has ls 4 [(3, .int 0), (2, .ref y0), (1, .ref x0), (0, .ref b)] → W p l e room_1 s m #[Value.ref b] below meth c H locs 81 11738 Q (F0 m 1413 ls [])) : W p l e room_1 s m #[Value.ref b] below meth c H locs 81 11738 Q (F0 m 358 ls []) := by
  have hA : ∀ q : Nat, s.heap.size ≤ q → (fun q : Nat => s.heap.size ≤ q) q := fun _ h => h
  have hbA : ¬ (fun q : Nat => s.heap.size ≤ q) b := Nat.not_le.mpr hbl
  have hP := hP.sub (ws' := [(x0, .inr (10, [.ref (x 0), .ref (x 2), .ref (x 26), .ref (x 21), .ref (x 20), .ref (x 25), .ref (x 29), .ref (x 31), .ref (x 35), .int 0])), ((x 26), .inr (7, [.ref (x 13), .ref (x 14), .ref (x 15), .int 0, .int 0, .int 10, .int 150, .int 2, .int 0, .int 0])), (y0, .inr (11, mFs r mv0))]) [0, 27, 42] rfl
  have hD := hD.sub (ws' := [(x0, .inr (10, [.ref (x 0), .ref (x 2), .ref (x 26), .ref (x 21), .ref (x 20), .ref (x 25), .ref (x 29), .ref (x 31), .ref (x 35), .int 0])), ((x 26), .inr (7, [.ref (x 13), .ref (x 14), .ref (x 15), .int 0, .int 0, .int 10, .int 150, .int 2, .int 0, .int 0])), (y0, .inr (11, mFs r mv0))]) [0, 27, 42] (by decide) rfl
  refine lv_aload_n hx hb dL_law_358 rfl (lv_at hl 2 rfl) ?_
  refine lv_aload_n hx hb dL_law_359 rfl (lv_at hl 3 rfl) ?_
  refine lv_iload_n hx hb dL_law_360 rfl (lv_at hl 0 rfl) ?_
  refine lv_iconst (v := 1) hx hb dL_law_361 (by decide) ?_
  refine lv_iadd hx hb dL_law_362 ?_
  refine tI (y := 1) (by decide) ?_
  refine va_sld hx hb hX hbl hbA hS (vp_in_nI (n := 1) (by decide) (by decide)) dL_law_363 ?_
  refine tI (y := xs 1) (congrArg xs (nI_clamp (n := 1) (by decide))) ?_
  refine lv_aload_n hx hb dL_law_364 rfl (lv_at hl 3 rfl) ?_
  refine lv_iload_n hx hb dL_law_365 rfl (lv_at hl 0 rfl) ?_
  refine lv_iconst (v := 2) hx hb dL_law_366 (by decide) ?_
  refine lv_iadd hx hb dL_law_367 ?_
  refine tI (y := 2) (by decide) ?_
  refine va_sld hx hb hX hbl hbA hS (vp_in_nI (n := 2) (by decide) (by decide)) dL_law_368 ?_
  refine tI (y := xs 2) (congrArg xs (nI_clamp (n := 2) (by decide))) ?_
  refine caVi (n := 2) (wr := [(y0, .inr (11, mFs r mv0))]) (rest := []) hx hb hml hown hts hE hP hD hS hA (cnX10_man_1 l dC dI cy x0 (x 26) (x 0) (x 2) (x 21) (x 20) (x 25) (x 29) (x 31) (x 35) (x 13) (x 14) (x 15) (xs 1) (xs 2)) k_798 k_799 k_800 k_101 k_801 (by decide +kernel) ⟨Nat.le_of_ble_eq_true rfl, Nat.le_of_ble_eq_true rfl⟩ [0, 1] [2] rfl rfl rfl (by decide) (by decide) (by decide) 0 10 rfl rfl rfl hl.1 rfl (Nat.le_of_ble_eq_true rfl) dL_law_369 ⟨Nat.le_of_ble_eq_true rfl, Nat.le_of_ble_eq_true rfl⟩ (fun rr u H locs hw hP hD hS => ?_)
  have hP : va_P (dC, dI) vwCl [(y0, .inr (11, mFs r mv0))] H := hP
  have hD : va_D (fun q : Nat => s.heap.size ≤ q) [(y0, .inr (11, mFs r mv0))] := hD
  refine tI (y := (F_man (xs 1) (xs 2))) hw ?_
  refine lv_aload_n hx hb dL_law_372 rfl (lv_at hl 1 rfl) ?_
  refine lv_aload_n hx hb dL_law_373 rfl (lv_at hl 3 rfl) ?_
  refine lv_iload_n hx hb dL_law_374 rfl (lv_at hl 0 rfl) ?_
  refine lv_iconst (v := 1) hx hb dL_law_375 (by decide) ?_
  refine lv_iadd hx hb dL_law_376 ?_
  refine tI (y := 1) (by decide) ?_
  refine va_sld hx hb hX hbl hbA hS (vp_in_nI (n := 1) (by decide) (by decide)) dL_law_377 ?_
  refine tI (y := xs 1) (congrArg xs (nI_clamp (n := 1) (by decide))) ?_
  refine lv_aload_n hx hb dL_law_378 rfl (lv_at hl 3 rfl) ?_
  refine lv_iload_n hx hb dL_law_379 rfl (lv_at hl 0 rfl) ?_
  refine lv_iconst (v := 2) hx hb dL_law_380 (by decide) ?_
  refine lv_iadd hx hb dL_law_381 ?_
  refine tI (y := 2) (by decide) ?_
  refine va_sld hx hb hX hbl hbA hS (vp_in_nI (n := 2) (by decide) (by decide)) dL_law_382 ?_
  refine tI (y := xs 2) (congrArg xs (nI_clamp (n := 2) (by decide))) ?_
  refine caVi (n := 2) (wr := []) (rest := [.int (F_man (xs 1) (xs 2))]) hx hb hml hown hts hE hP hD hS hA (cnX11_man_1 l dC dI cy y0 r (xs 1) (xs 2)) k_1728 k_1729 k_1730 k_114 k_1731 (by decide +kernel) ⟨Nat.le_of_ble_eq_true rfl, Nat.le_of_ble_eq_true rfl⟩ [0] [] rfl rfl rfl (by decide) (by decide) (by decide) 0 11 rfl rfl rfl hl.1 rfl (Nat.le_of_ble_eq_true rfl) dL_law_383 ⟨Nat.le_of_ble_eq_true rfl, Nat.le_of_ble_eq_true rfl⟩ (fun rr u H locs hw hP hD hS => ?_)
  have hP : va_P (dC, dI) vwCl [] H := hP
  have hD : va_D (fun q : Nat => s.heap.size ≤ q) [] := hD
  refine tI (y := (F_man (xs 1) (xs 2))) hw ?_
  refine lv_icmp_eq (tgt := 1413) hx hb dL_law_386 (by decide) (fun _ => ?_) (fun c0 => absurd rfl c0)
  exact fin _ _ _ hS hl
set_option maxHeartbeats 4000000 in
set_option maxRecDepth 100000 in
theorem law_5 {p : Program} {l : Launch} {e : Env} {s : State} {m : MethodId} {below : List Frame} {meth : Method} {c : Code} {dC : Nat → ClassId} {dI : Nat → Nat → Nat} {cy : Nat → ClassId} {b : Nat} {xs : Nat → Int32} {Q : State → Prop} (hx : p.tables.exec = Jvm.exec) (hb : c.code = code) (hml : c.maxLocals = 4) (hown : s.vm.findClass RL = some m.cls) (hts : ∀ w ∈ BIG, w.before #[Value.ref b] s = true) (hE : ENV (dC, dI) cy s) (hX : va_X b 6 xs s s.heap) (hbl : b < s.heap.size) {x0 y0 : Nat} {x r : Nat → Nat} {H : Heap} {locs : List Loc} {ls : Array Slot} (hP : va_P (dC, dI) vwCl (LW cy x0 y0 x r) H) (hD : va_D (fun q : Nat => s.heap.size ≤ q) (LW cy x0 y0 x r)) (hS : va_S (fun q : Nat => s.heap.size ≤ q) s.heap H locs) (hl : lv_has ls 4 [(3, .int 0), (2, .ref y0), (1, .ref x0), (0, .ref b)]) (fin : ∀ (H : Heap) (locs : List Loc) (ls : Array Slot), va_S (fun q : Nat => s.heap.size ≤ q) s.heap H locs → lv_has ls 4 [(3, .int 0), (2, .ref y0), (1, .ref x0), (0, .ref b)] → W p l e room_1 s m #[Value.ref b] below meth c H locs 81 11738 Q (F0 m 1413 ls [])) : W p l e room_1 s m #[Value.ref b] below meth c H locs 81 11738 Q (F0 m 391 ls []) := by
  have hA : ∀ q : Nat, s.heap.size ≤ q → (fun q : Nat => s.heap.size ≤ q) q := fun _ h => h
  have hbA : ¬ (fun q : Nat => s.heap.size ≤ q) b := Nat.not_le.mpr hbl
  have hP := hP.sub (ws' := [(x0, .inr (10, [.ref (x 0), .ref (x 2), .ref (x 26), .ref (x 21), .ref (x 20), .ref (x 25), .ref (x 29), .ref (x 31), .ref (x 35), .int 0])), ((x 26), .inr (7, [.ref (x 13), .ref (x 14), .ref (x 15), .int 0, .int 0, .int 10, .int 150, .int 2, .int 0, .int 0])), (y0, .inr (11, mFs r mv0))]) [0, 27, 42] rfl
  have hD := hD.sub (ws' := [(x0, .inr (10, [.ref (x 0), .ref (x 2), .ref (x 26), .ref (x 21), .ref (x 20), .ref (x 25), .ref (x 29), .ref (x 31), .ref (x 35), .int 0])), ((x 26), .inr (7, [.ref (x 13), .ref (x 14), .ref (x 15), .int 0, .int 0, .int 10, .int 150, .int 2, .int 0, .int 0])), (y0, .inr (11, mFs r mv0))]) [0, 27, 42] (by decide) rfl
  refine lv_aload_n hx hb dL_law_391 rfl (lv_at hl 2 rfl) ?_
  refine lv_aload_n hx hb dL_law_392 rfl (lv_at hl 3 rfl) ?_
  refine lv_iload_n hx hb dL_law_393 rfl (lv_at hl 0 rfl) ?_
  refine lv_iconst (v := 1) hx hb dL_law_394 (by decide) ?_
  refine lv_iadd hx hb dL_law_395 ?_
  refine tI (y := 1) (by decide) ?_
  refine va_sld hx hb hX hbl hbA hS (vp_in_nI (n := 1) (by decide) (by decide)) dL_law_396 ?_
  refine tI (y := xs 1) (congrArg xs (nI_clamp (n := 1) (by decide))) ?_
  refine lv_aload_n hx hb dL_law_397 rfl (lv_at hl 3 rfl) ?_
  refine lv_iload_n hx hb dL_law_398 rfl (lv_at hl 0 rfl) ?_
  refine lv_iconst (v := 2) hx hb dL_law_399 (by decide) ?_
  refine lv_iadd hx hb dL_law_400 ?_
  refine tI (y := 2) (by decide) ?_
  refine va_sld hx hb hX hbl hbA hS (vp_in_nI (n := 2) (by decide) (by decide)) dL_law_401 ?_
  refine tI (y := xs 2) (congrArg xs (nI_clamp (n := 2) (by decide))) ?_
  refine caVi (n := 2) (wr := [(y0, .inr (11, mFs r mv0))]) (rest := []) hx hb hml hown hts hE hP hD hS hA (cnX10_coat_1 l dC dI cy x0 (x 26) (x 0) (x 2) (x 21) (x 20) (x 25) (x 29) (x 31) (x 35) (x 13) (x 14) (x 15) (xs 1) (xs 2)) k_844 k_845 k_846 k_101 k_847 (by decide +kernel) ⟨Nat.le_of_ble_eq_true rfl, Nat.le_of_ble_eq_true rfl⟩ [0, 1] [2] rfl rfl rfl (by decide) (by decide) (by decide) 0 10 rfl rfl rfl hl.1 rfl (Nat.le_of_ble_eq_true rfl) dL_law_402 ⟨Nat.le_of_ble_eq_true rfl, Nat.le_of_ble_eq_true rfl⟩ (fun rr u H locs hw hP hD hS => ?_)
  have hP : va_P (dC, dI) vwCl [(y0, .inr (11, mFs r mv0))] H := hP
  have hD : va_D (fun q : Nat => s.heap.size ≤ q) [(y0, .inr (11, mFs r mv0))] := hD
  refine tI (y := (F_coat (xs 1) (xs 2))) hw ?_
  refine lv_aload_n hx hb dL_law_405 rfl (lv_at hl 1 rfl) ?_
  refine lv_aload_n hx hb dL_law_406 rfl (lv_at hl 3 rfl) ?_
  refine lv_iload_n hx hb dL_law_407 rfl (lv_at hl 0 rfl) ?_
  refine lv_iconst (v := 1) hx hb dL_law_408 (by decide) ?_
  refine lv_iadd hx hb dL_law_409 ?_
  refine tI (y := 1) (by decide) ?_
  refine va_sld hx hb hX hbl hbA hS (vp_in_nI (n := 1) (by decide) (by decide)) dL_law_410 ?_
  refine tI (y := xs 1) (congrArg xs (nI_clamp (n := 1) (by decide))) ?_
  refine lv_aload_n hx hb dL_law_411 rfl (lv_at hl 3 rfl) ?_
  refine lv_iload_n hx hb dL_law_412 rfl (lv_at hl 0 rfl) ?_
  refine lv_iconst (v := 2) hx hb dL_law_413 (by decide) ?_
  refine lv_iadd hx hb dL_law_414 ?_
  refine tI (y := 2) (by decide) ?_
  refine va_sld hx hb hX hbl hbA hS (vp_in_nI (n := 2) (by decide) (by decide)) dL_law_415 ?_
  refine tI (y := xs 2) (congrArg xs (nI_clamp (n := 2) (by decide))) ?_
  refine caVi (n := 2) (wr := []) (rest := [.int (F_coat (xs 1) (xs 2))]) hx hb hml hown hts hE hP hD hS hA (cnX11_coat_1 l dC dI cy y0 r (xs 1) (xs 2)) k_1767 k_1768 k_1769 k_114 k_1770 (by decide +kernel) ⟨Nat.le_of_ble_eq_true rfl, Nat.le_of_ble_eq_true rfl⟩ [0] [] rfl rfl rfl (by decide) (by decide) (by decide) 0 11 rfl rfl rfl hl.1 rfl (Nat.le_of_ble_eq_true rfl) dL_law_416 ⟨Nat.le_of_ble_eq_true rfl, Nat.le_of_ble_eq_true rfl⟩ (fun rr u H locs hw hP hD hS => ?_)
  have hP : va_P (dC, dI) vwCl [] H := hP
  have hD : va_D (fun q : Nat => s.heap.size ≤ q) [] := hD
  refine tI (y := (F_coat (xs 1) (xs 2))) hw ?_
  refine lv_icmp_eq (tgt := 1413) hx hb dL_law_419 (by decide) (fun _ => ?_) (fun c0 => absurd rfl c0)
  exact fin _ _ _ hS hl
set_option maxHeartbeats 4000000 in
set_option maxRecDepth 100000 in
theorem law_6 {p : Program} {l : Launch} {e : Env} {s : State} {m : MethodId} {below : List Frame} {meth : Method} {c : Code} {dC : Nat → ClassId} {dI : Nat → Nat → Nat} {cy : Nat → ClassId} {b : Nat} {xs : Nat → Int32} {Q : State → Prop} (hx : p.tables.exec = Jvm.exec) (hb : c.code = code) (hml : c.maxLocals = 4) (hown : s.vm.findClass RL = some m.cls) (hts : ∀ w ∈ BIG, w.before #[Value.ref b] s = true) (hE : ENV (dC, dI) cy s) (hX : va_X b 6 xs s s.heap) (hbl : b < s.heap.size) {x0 y0 : Nat} {x r : Nat → Nat} {H : Heap} {locs : List Loc} {ls : Array Slot} (hP : va_P (dC, dI) vwCl (LW cy x0 y0 x r) H) (hD : va_D (fun q : Nat => s.heap.size ≤ q) (LW cy x0 y0 x r)) (hS : va_S (fun q : Nat => s.heap.size ≤ q) s.heap H locs) (hl : lv_has ls 4 [(3, .int 0), (2, .ref y0), (1, .ref x0), (0, .ref b)]) (fin : ∀ (H : Heap) (locs : List Loc) (ls : Array Slot), va_S (fun q : Nat => s.heap.size ≤ q) s.heap H locs → lv_has ls 4 [(3, .int 0), (2, .ref y0), (1, .ref x0), (0, .ref b)] → W p l e room_1 s m #[Value.ref b] below meth c H locs 81 11738 Q (F0 m 1413 ls [])) : W p l e room_1 s m #[Value.ref b] below meth c H locs 81 11738 Q (F0 m 424 ls []) := by
  have hA : ∀ q : Nat, s.heap.size ≤ q → (fun q : Nat => s.heap.size ≤ q) q := fun _ h => h
  have hbA : ¬ (fun q : Nat => s.heap.size ≤ q) b := Nat.not_le.mpr hbl
  have hP := hP.sub (ws' := [(x0, .inr (10, [.ref (x 0), .ref (x 2), .ref (x 26), .ref (x 21), .ref (x 20), .ref (x 25), .ref (x 29), .ref (x 31), .ref (x 35), .int 0])), ((x 26), .inr (7, [.ref (x 13), .ref (x 14), .ref (x 15), .int 0, .int 0, .int 10, .int 150, .int 2, .int 0, .int 0])), (y0, .inr (11, mFs r mv0)), ((r 59), .inl (cy 1, 39, .inl zF)), ((r 60), .inl (cy 1, 39, .inl zF))]) [0, 27, 42, 66, 67] rfl
  have hD := hD.sub (ws' := [(x0, .inr (10, [.ref (x 0), .ref (x 2), .ref (x 26), .ref (x 21), .ref (x 20), .ref (x 25), .ref (x 29), .ref (x 31), .ref (x 35), .int 0])), ((x 26), .inr (7, [.ref (x 13), .ref (x 14), .ref (x 15), .int 0, .int 0, .int 10, .int 150, .int 2, .int 0, .int 0])), (y0, .inr (11, mFs r mv0)), ((r 59), .inl (cy 1, 39, .inl zF)), ((r 60), .inl (cy 1, 39, .inl zF))]) [0, 27, 42, 66, 67] (by decide) rfl
  refine lv_aload_n hx hb dL_law_424 rfl (lv_at hl 2 rfl) ?_
  refine lv_aload_n hx hb dL_law_425 rfl (lv_at hl 3 rfl) ?_
  refine lv_iload_n hx hb dL_law_426 rfl (lv_at hl 0 rfl) ?_
  refine lv_iconst (v := 1) hx hb dL_law_427 (by decide) ?_
  refine lv_iadd hx hb dL_law_428 ?_
  refine tI (y := 1) (by decide) ?_
  refine va_sld hx hb hX hbl hbA hS (vp_in_nI (n := 1) (by decide) (by decide)) dL_law_429 ?_
  refine tI (y := xs 1) (congrArg xs (nI_clamp (n := 1) (by decide))) ?_
  refine lv_aload_n hx hb dL_law_430 rfl (lv_at hl 3 rfl) ?_
  refine lv_iload_n hx hb dL_law_431 rfl (lv_at hl 0 rfl) ?_
  refine lv_iconst (v := 2) hx hb dL_law_432 (by decide) ?_
  refine lv_iadd hx hb dL_law_433 ?_
  refine tI (y := 2) (by decide) ?_
  refine va_sld hx hb hX hbl hbA hS (vp_in_nI (n := 2) (by decide) (by decide)) dL_law_434 ?_
  refine tI (y := xs 2) (congrArg xs (nI_clamp (n := 2) (by decide))) ?_
  refine caVi (n := 2) (wr := [(y0, .inr (11, mFs r mv0)), ((r 59), .inl (cy 1, 39, .inl zF)), ((r 60), .inl (cy 1, 39, .inl zF))]) (rest := []) hx hb hml hown hts hE hP hD hS hA (cnX10_misfit_1 l dC dI cy x0 (x 26) (x 0) (x 2) (x 21) (x 20) (x 25) (x 29) (x 31) (x 35) (x 13) (x 14) (x 15) (xs 1) (xs 2)) k_855 k_856 k_857 k_101 k_858 (by decide +kernel) ⟨Nat.le_of_ble_eq_true rfl, Nat.le_of_ble_eq_true rfl⟩ [0, 1] [2, 3, 4] rfl rfl rfl (by decide) (by decide) (by decide) 0 10 rfl rfl rfl hl.1 rfl (Nat.le_of_ble_eq_true rfl) dL_law_435 ⟨Nat.le_of_ble_eq_true rfl, Nat.le_of_ble_eq_true rfl⟩ (fun rr u H locs hw hP hD hS => ?_)
  have hP : va_P (dC, dI) vwCl [(y0, .inr (11, mFs r mv0)), ((r 59), .inl (cy 1, 39, .inl zF)), ((r 60), .inl (cy 1, 39, .inl zF))] H := hP
  have hD : va_D (fun q : Nat => s.heap.size ≤ q) [(y0, .inr (11, mFs r mv0)), ((r 59), .inl (cy 1, 39, .inl zF)), ((r 60), .inl (cy 1, 39, .inl zF))] := hD
  refine tI (y := (F_misfit (xs 1) (xs 2))) hw ?_
  refine lv_aload_n hx hb dL_law_438 rfl (lv_at hl 1 rfl) ?_
  refine lv_aload_n hx hb dL_law_439 rfl (lv_at hl 3 rfl) ?_
  refine lv_iload_n hx hb dL_law_440 rfl (lv_at hl 0 rfl) ?_
  refine lv_iconst (v := 1) hx hb dL_law_441 (by decide) ?_
  refine lv_iadd hx hb dL_law_442 ?_
  refine tI (y := 1) (by decide) ?_
  refine va_sld hx hb hX hbl hbA hS (vp_in_nI (n := 1) (by decide) (by decide)) dL_law_443 ?_
  refine tI (y := xs 1) (congrArg xs (nI_clamp (n := 1) (by decide))) ?_
  refine lv_aload_n hx hb dL_law_444 rfl (lv_at hl 3 rfl) ?_
  refine lv_iload_n hx hb dL_law_445 rfl (lv_at hl 0 rfl) ?_
  refine lv_iconst (v := 2) hx hb dL_law_446 (by decide) ?_
  refine lv_iadd hx hb dL_law_447 ?_
  refine tI (y := 2) (by decide) ?_
  refine va_sld hx hb hX hbl hbA hS (vp_in_nI (n := 2) (by decide) (by decide)) dL_law_448 ?_
  refine tI (y := xs 2) (congrArg xs (nI_clamp (n := 2) (by decide))) ?_
  refine caVi (n := 2) (wr := []) (rest := [.int (F_misfit (xs 1) (xs 2))]) hx hb hml hown hts hE hP hD hS hA (cnX11_misfit_1 l dC dI cy y0 r (xs 1) (xs 2)) k_1779 k_1780 k_1781 k_114 k_1782 (by decide +kernel) ⟨Nat.le_of_ble_eq_true rfl, Nat.le_of_ble_eq_true rfl⟩ [0, 1, 2] [] rfl rfl rfl (by decide) (by decide) (by decide) 0 11 rfl rfl rfl hl.1 rfl (Nat.le_of_ble_eq_true rfl) dL_law_449 ⟨Nat.le_of_ble_eq_true rfl, Nat.le_of_ble_eq_true rfl⟩ (fun rr u H locs hw hP hD hS => ?_)
  have hP : va_P (dC, dI) vwCl [] H := hP
  have hD : va_D (fun q : Nat => s.heap.size ≤ q) [] := hD
  refine tI (y := (F_misfit (xs 1) (xs 2))) hw ?_
  refine lv_icmp_eq (tgt := 1413) hx hb dL_law_452 (by decide) (fun _ => ?_) (fun c0 => absurd rfl c0)
  exact fin _ _ _ hS hl
set_option maxHeartbeats 4000000 in
set_option maxRecDepth 100000 in
theorem law_7 {p : Program} {l : Launch} {e : Env} {s : State} {m : MethodId} {below : List Frame} {meth : Method} {c : Code} {dC : Nat → ClassId} {dI : Nat → Nat → Nat} {cy : Nat → ClassId} {b : Nat} {xs : Nat → Int32} {Q : State → Prop} (hx : p.tables.exec = Jvm.exec) (hb : c.code = code) (hml : c.maxLocals = 4) (hown : s.vm.findClass RL = some m.cls) (hts : ∀ w ∈ BIG, w.before #[Value.ref b] s = true) (hE : ENV (dC, dI) cy s) (hX : va_X b 6 xs s s.heap) (hbl : b < s.heap.size) {x0 y0 : Nat} {x r : Nat → Nat} {H : Heap} {locs : List Loc} {ls : Array Slot} (hP : va_P (dC, dI) vwCl (LW cy x0 y0 x r) H) (hD : va_D (fun q : Nat => s.heap.size ≤ q) (LW cy x0 y0 x r)) (hS : va_S (fun q : Nat => s.heap.size ≤ q) s.heap H locs) (hl : lv_has ls 4 [(3, .int 0), (2, .ref y0), (1, .ref x0), (0, .ref b)]) (fin : ∀ (H : Heap) (locs : List Loc) (ls : Array Slot), va_S (fun q : Nat => s.heap.size ≤ q) s.heap H locs → lv_has ls 4 [(3, .int 0), (2, .ref y0), (1, .ref x0), (0, .ref b)] → W p l e room_1 s m #[Value.ref b] below meth c H locs 81 11738 Q (F0 m 1413 ls [])) : W p l e room_1 s m #[Value.ref b] below meth c H locs 81 11738 Q (F0 m 457 ls []) := by
  have hA : ∀ q : Nat, s.heap.size ≤ q → (fun q : Nat => s.heap.size ≤ q) q := fun _ h => h
  have hbA : ¬ (fun q : Nat => s.heap.size ≤ q) b := Nat.not_le.mpr hbl
  have hP := hP.sub (ws' := [(x0, .inr (10, [.ref (x 0), .ref (x 2), .ref (x 26), .ref (x 21), .ref (x 20), .ref (x 25), .ref (x 29), .ref (x 31), .ref (x 35), .int 0])), ((x 21), .inr (1, [.ref (x 26), .ref (x 22)])), ((x 22), .inl (cy 1, 44, .inl cF)), ((x 26), .inr (7, [.ref (x 13), .ref (x 14), .ref (x 15), .int 0, .int 0, .int 10, .int 150, .int 2, .int 0, .int 0])), ((x 20), .inr (5, [.ref (x 21), .ref (x 24), .ref (x 23), .int 0, .int 0, .int 0, .int 0])), ((x 24), .inl (cy 1, 1804, .inl (va_cpy cF zF 0 0 44))), (y0, .inr (11, mFs r mv0)), ((r 59), .inl (cy 1, 39, .inl zF)), ((r 60), .inl (cy 1, 39, .inl zF)), ((r 61), .inl (cy 1, 1560, .inl zF))]) [0, 22, 23, 27, 21, 25, 42, 66, 67, 68] rfl
  have hD := hD.sub (ws' := [(x0, .inr (10, [.ref (x 0), .ref (x 2), .ref (x 26), .ref (x 21), .ref (x 20), .ref (x 25), .ref (x 29), .ref (x 31), .ref (x 35), .int 0])), ((x 21), .inr (1, [.ref (x 26), .ref (x 22)])), ((x 22), .inl (cy 1, 44, .inl cF)), ((x 26), .inr (7, [.ref (x 13), .ref (x 14), .ref (x 15), .int 0, .int 0, .int 10, .int 150, .int 2, .int 0, .int 0])), ((x 20), .inr (5, [.ref (x 21), .ref (x 24), .ref (x 23), .int 0, .int 0, .int 0, .int 0])), ((x 24), .inl (cy 1, 1804, .inl (va_cpy cF zF 0 0 44))), (y0, .inr (11, mFs r mv0)), ((r 59), .inl (cy 1, 39, .inl zF)), ((r 60), .inl (cy 1, 39, .inl zF)), ((r 61), .inl (cy 1, 1560, .inl zF))]) [0, 22, 23, 27, 21, 25, 42, 66, 67, 68] (by decide) rfl
  refine lv_aload_n hx hb dL_law_457 rfl (lv_at hl 2 rfl) ?_
  refine caVi (n := 0) (wr := [(y0, .inr (11, mFs r mv0)), ((r 59), .inl (cy 1, 39, .inl zF)), ((r 60), .inl (cy 1, 39, .inl zF)), ((r 61), .inl (cy 1, 1560, .inl zF))]) (rest := []) hx hb hml hown hts hE hP hD hS hA (cnX10_day_1 l dC dI cy x0 (x 21) (x 22) (x 26) (x 20) (x 24) (x 0) (x 2) (x 25) (x 29) (x 31) (x 35) (x 13) (x 14) (x 15) (x 23) (va_cpy cF zF 0 0 44)) k_860 k_861 k_862 k_101 k_863 (by decide +kernel) ⟨Nat.le_of_ble_eq_true rfl, Nat.le_of_ble_eq_true rfl⟩ [0, 1, 2, 3, 4, 5] [6, 7, 8, 9] rfl rfl rfl (by decide) (by decide) (by decide) 0 10 rfl rfl rfl hl.1 rfl (Nat.le_of_ble_eq_true rfl) dL_law_458 ⟨Nat.le_of_ble_eq_true rfl, Nat.le_of_ble_eq_true rfl⟩ (fun rr u H locs hw hP hD hS => ?_)
  have hP : va_P (dC, dI) vwCl [(y0, .inr (11, mFs r mv0)), ((r 59), .inl (cy 1, 39, .inl zF)), ((r 60), .inl (cy 1, 39, .inl zF)), ((r 61), .inl (cy 1, 1560, .inl zF))] H := hP
  have hD : va_D (fun q : Nat => s.heap.size ≤ q) [(y0, .inr (11, mFs r mv0)), ((r 59), .inl (cy 1, 39, .inl zF)), ((r 60), .inl (cy 1, 39, .inl zF)), ((r 61), .inl (cy 1, 1560, .inl zF))] := hD
  refine tI (y := (F_day)) hw ?_
  refine lv_aload_n hx hb dL_law_461 rfl (lv_at hl 1 rfl) ?_
  refine caVi (n := 0) (wr := []) (rest := [.int (F_day)]) hx hb hml hown hts hE hP hD hS hA (cnX11_day_1 l dC dI cy y0 r) k_1783 k_1784 k_1785 k_114 k_1786 (by decide +kernel) ⟨Nat.le_of_ble_eq_true rfl, Nat.le_of_ble_eq_true rfl⟩ [0, 1, 2, 3] [] rfl rfl rfl (by decide) (by decide) (by decide) 0 11 rfl rfl rfl hl.1 rfl (Nat.le_of_ble_eq_true rfl) dL_law_462 ⟨Nat.le_of_ble_eq_true rfl, Nat.le_of_ble_eq_true rfl⟩ (fun rr u H locs hw hP hD hS => ?_)
  have hP : va_P (dC, dI) vwCl [] H := hP
  have hD : va_D (fun q : Nat => s.heap.size ≤ q) [] := hD
  refine tI (y := (F_day)) hw ?_
  refine lv_icmp_eq (tgt := 1413) hx hb dL_law_465 (by decide) (fun _ => ?_) (fun c0 => absurd rfl c0)
  exact fin _ _ _ hS hl
set_option maxHeartbeats 4000000 in
set_option maxRecDepth 100000 in
theorem law_8 {p : Program} {l : Launch} {e : Env} {s : State} {m : MethodId} {below : List Frame} {meth : Method} {c : Code} {dC : Nat → ClassId} {dI : Nat → Nat → Nat} {cy : Nat → ClassId} {b : Nat} {xs : Nat → Int32} {Q : State → Prop} (hx : p.tables.exec = Jvm.exec) (hb : c.code = code) (hml : c.maxLocals = 4) (hown : s.vm.findClass RL = some m.cls) (hts : ∀ w ∈ BIG, w.before #[Value.ref b] s = true) (hE : ENV (dC, dI) cy s) (hX : va_X b 6 xs s s.heap) (hbl : b < s.heap.size) {x0 y0 : Nat} {x r : Nat → Nat} {H : Heap} {locs : List Loc} {ls : Array Slot} (hP : va_P (dC, dI) vwCl (LW cy x0 y0 x r) H) (hD : va_D (fun q : Nat => s.heap.size ≤ q) (LW cy x0 y0 x r)) (hS : va_S (fun q : Nat => s.heap.size ≤ q) s.heap H locs) (hl : lv_has ls 4 [(3, .int 0), (2, .ref y0), (1, .ref x0), (0, .ref b)]) (fin : ∀ (H : Heap) (locs : List Loc) (ls : Array Slot), va_S (fun q : Nat => s.heap.size ≤ q) s.heap H locs → lv_has ls 4 [(3, .int 0), (2, .ref y0), (1, .ref x0), (0, .ref b)] → W p l e room_1 s m #[Value.ref b] below meth c H locs 81 11738 Q (F0 m 1413 ls [])) : W p l e room_1 s m #[Value.ref b] below meth c H locs 81 11738 Q (F0 m 470 ls []) := by
  have hA : ∀ q : Nat, s.heap.size ≤ q → (fun q : Nat => s.heap.size ≤ q) q := fun _ h => h
  have hbA : ¬ (fun q : Nat => s.heap.size ≤ q) b := Nat.not_le.mpr hbl
  have hP := hP.sub (ws' := [(x0, .inr (10, [.ref (x 0), .ref (x 2), .ref (x 26), .ref (x 21), .ref (x 20), .ref (x 25), .ref (x 29), .ref (x 31), .ref (x 35), .int 0])), ((x 26), .inr (7, [.ref (x 13), .ref (x 14), .ref (x 15), .int 0, .int 0, .int 10, .int 150, .int 2, .int 0, .int 0])), (y0, .inr (11, mFs r mv0)), ((r 59), .inl (cy 1, 39, .inl zF)), ((r 60), .inl (cy 1, 39, .inl zF))]) [0, 27, 42, 66, 67] rfl
  have hD := hD.sub (ws' := [(x0, .inr (10, [.ref (x 0), .ref (x 2), .ref (x 26), .ref (x 21), .ref (x 20), .ref (x 25), .ref (x 29), .ref (x 31), .ref (x 35), .int 0])), ((x 26), .inr (7, [.ref (x 13), .ref (x 14), .ref (x 15), .int 0, .int 0, .int 10, .int 150, .int 2, .int 0, .int 0])), (y0, .inr (11, mFs r mv0)), ((r 59), .inl (cy 1, 39, .inl zF)), ((r 60), .inl (cy 1, 39, .inl zF))]) [0, 27, 42, 66, 67] (by decide) rfl
  refine lv_aload_n hx hb dL_law_470 rfl (lv_at hl 2 rfl) ?_
  refine lv_aload_n hx hb dL_law_471 rfl (lv_at hl 3 rfl) ?_
  refine lv_iload_n hx hb dL_law_472 rfl (lv_at hl 0 rfl) ?_
  refine lv_iconst (v := 1) hx hb dL_law_473 (by decide) ?_
  refine lv_iadd hx hb dL_law_474 ?_
  refine tI (y := 1) (by decide) ?_
  refine va_sld hx hb hX hbl hbA hS (vp_in_nI (n := 1) (by decide) (by decide)) dL_law_475 ?_
  refine tI (y := xs 1) (congrArg xs (nI_clamp (n := 1) (by decide))) ?_
  refine lv_aload_n hx hb dL_law_476 rfl (lv_at hl 3 rfl) ?_
  refine lv_iload_n hx hb dL_law_477 rfl (lv_at hl 0 rfl) ?_
  refine lv_iconst (v := 2) hx hb dL_law_478 (by decide) ?_
  refine lv_iadd hx hb dL_law_479 ?_
  refine tI (y := 2) (by decide) ?_
  refine va_sld hx hb hX hbl hbA hS (vp_in_nI (n := 2) (by decide) (by decide)) dL_law_480 ?_
  refine tI (y := xs 2) (congrArg xs (nI_clamp (n := 2) (by decide))) ?_
  refine caVi (n := 2) (wr := [(y0, .inr (11, mFs r mv0)), ((r 59), .inl (cy 1, 39, .inl zF)), ((r 60), .inl (cy 1, 39, .inl zF))]) (rest := []) hx hb hml hown hts hE hP hD hS hA (cnX10_don_1 l dC dI cy x0 (x 26) (x 0) (x 2) (x 21) (x 20) (x 25) (x 29) (x 31) (x 35) (x 13) (x 14) (x 15) (xs 1) (xs 2)) k_887 k_888 k_889 k_101 k_890 (by decide +kernel) ⟨Nat.le_of_ble_eq_true rfl, Nat.le_of_ble_eq_true rfl⟩ [0, 1] [2, 3, 4] rfl rfl rfl (by decide) (by decide) (by decide) 0 10 rfl rfl rfl hl.1 rfl (Nat.le_of_ble_eq_true rfl) dL_law_481 ⟨Nat.le_of_ble_eq_true rfl, Nat.le_of_ble_eq_true rfl⟩ (fun rr u H locs hw hP hD hS => ?_)
  have hP : va_P (dC, dI) vwCl [(y0, .inr (11, mFs r mv0)), ((r 59), .inl (cy 1, 39, .inl zF)), ((r 60), .inl (cy 1, 39, .inl zF))] H := hP
  have hD : va_D (fun q : Nat => s.heap.size ≤ q) [(y0, .inr (11, mFs r mv0)), ((r 59), .inl (cy 1, 39, .inl zF)), ((r 60), .inl (cy 1, 39, .inl zF))] := hD
  refine tI (y := (F_don (xs 1) (xs 2))) hw ?_
  refine lv_aload_n hx hb dL_law_484 rfl (lv_at hl 1 rfl) ?_
  refine lv_aload_n hx hb dL_law_485 rfl (lv_at hl 3 rfl) ?_
  refine lv_iload_n hx hb dL_law_486 rfl (lv_at hl 0 rfl) ?_
  refine lv_iconst (v := 1) hx hb dL_law_487 (by decide) ?_
  refine lv_iadd hx hb dL_law_488 ?_
  refine tI (y := 1) (by decide) ?_
  refine va_sld hx hb hX hbl hbA hS (vp_in_nI (n := 1) (by decide) (by decide)) dL_law_489 ?_
  refine tI (y := xs 1) (congrArg xs (nI_clamp (n := 1) (by decide))) ?_
  refine lv_aload_n hx hb dL_law_490 rfl (lv_at hl 3 rfl) ?_
  refine lv_iload_n hx hb dL_law_491 rfl (lv_at hl 0 rfl) ?_
  refine lv_iconst (v := 2) hx hb dL_law_492 (by decide) ?_
  refine lv_iadd hx hb dL_law_493 ?_
  refine tI (y := 2) (by decide) ?_
  refine va_sld hx hb hX hbl hbA hS (vp_in_nI (n := 2) (by decide) (by decide)) dL_law_494 ?_
  refine tI (y := xs 2) (congrArg xs (nI_clamp (n := 2) (by decide))) ?_
  refine caVi (n := 2) (wr := []) (rest := [.int (F_don (xs 1) (xs 2))]) hx hb hml hown hts hE hP hD hS hA (cnX11_don_1 l dC dI cy y0 r (xs 1) (xs 2)) k_1817 k_1818 k_1819 k_114 k_1820 (by decide +kernel) ⟨Nat.le_of_ble_eq_true rfl, Nat.le_of_ble_eq_true rfl⟩ [0, 1, 2] [] rfl rfl rfl (by decide) (by decide) (by decide) 0 11 rfl rfl rfl hl.1 rfl (Nat.le_of_ble_eq_true rfl) dL_law_495 ⟨Nat.le_of_ble_eq_true rfl, Nat.le_of_ble_eq_true rfl⟩ (fun rr u H locs hw hP hD hS => ?_)
  have hP : va_P (dC, dI) vwCl [] H := hP
  have hD : va_D (fun q : Nat => s.heap.size ≤ q) [] := hD
  refine tI (y := (F_don (xs 1) (xs 2))) hw ?_
  refine lv_icmp_eq (tgt := 1413) hx hb dL_law_498 (by decide) (fun _ => ?_) (fun c0 => absurd rfl c0)
  exact fin _ _ _ hS hl
set_option maxHeartbeats 4000000 in
set_option maxRecDepth 100000 in
theorem law_9 {p : Program} {l : Launch} {e : Env} {s : State} {m : MethodId} {below : List Frame} {meth : Method} {c : Code} {dC : Nat → ClassId} {dI : Nat → Nat → Nat} {cy : Nat → ClassId} {b : Nat} {xs : Nat → Int32} {Q : State → Prop} (hx : p.tables.exec = Jvm.exec) (hb : c.code = code) (hml : c.maxLocals = 4) (hown : s.vm.findClass RL = some m.cls) (hts : ∀ w ∈ BIG, w.before #[Value.ref b] s = true) (hE : ENV (dC, dI) cy s) (hX : va_X b 6 xs s s.heap) (hbl : b < s.heap.size) {x0 y0 : Nat} {x r : Nat → Nat} {H : Heap} {locs : List Loc} {ls : Array Slot} (hP : va_P (dC, dI) vwCl (LW cy x0 y0 x r) H) (hD : va_D (fun q : Nat => s.heap.size ≤ q) (LW cy x0 y0 x r)) (hS : va_S (fun q : Nat => s.heap.size ≤ q) s.heap H locs) (hl : lv_has ls 4 [(3, .int 0), (2, .ref y0), (1, .ref x0), (0, .ref b)]) (fin : ∀ (H : Heap) (locs : List Loc) (ls : Array Slot), va_S (fun q : Nat => s.heap.size ≤ q) s.heap H locs → lv_has ls 4 [(3, .int 0), (2, .ref y0), (1, .ref x0), (0, .ref b)] → W p l e room_1 s m #[Value.ref b] below meth c H locs 81 11738 Q (F0 m 1413 ls [])) : W p l e room_1 s m #[Value.ref b] below meth c H locs 81 11738 Q (F0 m 503 ls []) := by
  have hA : ∀ q : Nat, s.heap.size ≤ q → (fun q : Nat => s.heap.size ≤ q) q := fun _ h => h
  have hbA : ¬ (fun q : Nat => s.heap.size ≤ q) b := Nat.not_le.mpr hbl
  have hP := hP.sub (ws' := [(x0, .inr (10, [.ref (x 0), .ref (x 2), .ref (x 26), .ref (x 21), .ref (x 20), .ref (x 25), .ref (x 29), .ref (x 31), .ref (x 35), .int 0])), ((x 21), .inr (1, [.ref (x 26), .ref (x 22)])), ((x 26), .inr (7, [.ref (x 13), .ref (x 14), .ref (x 15), .int 0, .int 0, .int 10, .int 150, .int 2, .int 0, .int 0])), (y0, .inr (11, mFs r mv0))]) [0, 22, 27, 42] rfl
  have hD := hD.sub (ws' := [(x0, .inr (10, [.ref (x 0), .ref (x 2), .ref (x 26), .ref (x 21), .ref (x 20), .ref (x 25), .ref (x 29), .ref (x 31), .ref (x 35), .int 0])), ((x 21), .inr (1, [.ref (x 26), .ref (x 22)])), ((x 26), .inr (7, [.ref (x 13), .ref (x 14), .ref (x 15), .int 0, .int 0, .int 10, .int 150, .int 2, .int 0, .int 0])), (y0, .inr (11, mFs r mv0))]) [0, 22, 27, 42] (by decide) rfl
  refine lv_aload_n hx hb dL_law_503 rfl (lv_at hl 2 rfl) ?_
  refine lv_aload_n hx hb dL_law_504 rfl (lv_at hl 3 rfl) ?_
  refine lv_iload_n hx hb dL_law_505 rfl (lv_at hl 0 rfl) ?_
  refine lv_iconst (v := 1) hx hb dL_law_506 (by decide) ?_
  refine lv_iadd hx hb dL_law_507 ?_
  refine tI (y := 1) (by decide) ?_
  refine va_sld hx hb hX hbl hbA hS (vp_in_nI (n := 1) (by decide) (by decide)) dL_law_508 ?_
  refine tI (y := xs 1) (congrArg xs (nI_clamp (n := 1) (by decide))) ?_
  refine caVi (n := 1) (wr := [(y0, .inr (11, mFs r mv0))]) (rest := []) hx hb hml hown hts hE hP hD hS hA (cnX10_doff_1 l dC dI cy x0 (x 21) (x 26) (x 0) (x 2) (x 20) (x 25) (x 29) (x 31) (x 35) (x 22) (x 13) (x 14) (x 15) (xs 1)) k_892 k_893 k_894 k_101 k_895 (by decide +kernel) ⟨Nat.le_of_ble_eq_true rfl, Nat.le_of_ble_eq_true rfl⟩ [0, 1, 2] [3] rfl rfl rfl (by decide) (by decide) (by decide) 0 10 rfl rfl rfl hl.1 rfl (Nat.le_of_ble_eq_true rfl) dL_law_509 ⟨Nat.le_of_ble_eq_true rfl, Nat.le_of_ble_eq_true rfl⟩ (fun rr u H locs hw hP hD hS => ?_)
  have hP : va_P (dC, dI) vwCl [(y0, .inr (11, mFs r mv0))] H := hP
  have hD : va_D (fun q : Nat => s.heap.size ≤ q) [(y0, .inr (11, mFs r mv0))] := hD
  refine tI (y := (F_doff (xs 1))) hw ?_
  refine lv_aload_n hx hb dL_law_512 rfl (lv_at hl 1 rfl) ?_
  refine lv_aload_n hx hb dL_law_513 rfl (lv_at hl 3 rfl) ?_
  refine lv_iload_n hx hb dL_law_514 rfl (lv_at hl 0 rfl) ?_
  refine lv_iconst (v := 1) hx hb dL_law_515 (by decide) ?_
  refine lv_iadd hx hb dL_law_516 ?_
  refine tI (y := 1) (by decide) ?_
  refine va_sld hx hb hX hbl hbA hS (vp_in_nI (n := 1) (by decide) (by decide)) dL_law_517 ?_
  refine tI (y := xs 1) (congrArg xs (nI_clamp (n := 1) (by decide))) ?_
  refine caVi (n := 1) (wr := []) (rest := [.int (F_doff (xs 1))]) hx hb hml hown hts hE hP hD hS hA (cnX11_doff_1 l dC dI cy y0 r (xs 1)) k_1821 k_1822 k_1823 k_114 k_1824 (by decide +kernel) ⟨Nat.le_of_ble_eq_true rfl, Nat.le_of_ble_eq_true rfl⟩ [0] [] rfl rfl rfl (by decide) (by decide) (by decide) 0 11 rfl rfl rfl hl.1 rfl (Nat.le_of_ble_eq_true rfl) dL_law_518 ⟨Nat.le_of_ble_eq_true rfl, Nat.le_of_ble_eq_true rfl⟩ (fun rr u H locs hw hP hD hS => ?_)
  have hP : va_P (dC, dI) vwCl [] H := hP
  have hD : va_D (fun q : Nat => s.heap.size ≤ q) [] := hD
  refine tI (y := (F_doff (xs 1))) hw ?_
  refine lv_icmp_eq (tgt := 1413) hx hb dL_law_521 (by decide) (fun _ => ?_) (fun c0 => absurd rfl c0)
  exact fin _ _ _ hS hl
set_option maxHeartbeats 4000000 in
set_option maxRecDepth 100000 in
theorem law_10 {p : Program} {l : Launch} {e : Env} {s : State} {m : MethodId} {below : List Frame} {meth : Method} {c : Code} {dC : Nat → ClassId} {dI : Nat → Nat → Nat} {cy : Nat → ClassId} {b : Nat} {xs : Nat → Int32} {Q : State → Prop} (hx : p.tables.exec = Jvm.exec) (hb : c.code = code) (hml : c.maxLocals = 4) (hown : s.vm.findClass RL = some m.cls) (hts : ∀ w ∈ BIG, w.before #[Value.ref b] s = true) (hE : ENV (dC, dI) cy s) (hX : va_X b 6 xs s s.heap) (hbl : b < s.heap.size) {x0 y0 : Nat} {x r : Nat → Nat} {H : Heap} {locs : List Loc} {ls : Array Slot} (hP : va_P (dC, dI) vwCl (LW cy x0 y0 x r) H) (hD : va_D (fun q : Nat => s.heap.size ≤ q) (LW cy x0 y0 x r)) (hS : va_S (fun q : Nat => s.heap.size ≤ q) s.heap H locs) (hl : lv_has ls 4 [(3, .int 0), (2, .ref y0), (1, .ref x0), (0, .ref b)]) (fin : ∀ (H : Heap) (locs : List Loc) (ls : Array Slot), va_S (fun q : Nat => s.heap.size ≤ q) s.heap H locs → lv_has ls 4 [(3, .int 0), (2, .ref y0), (1, .ref x0), (0, .ref b)] → W p l e room_1 s m #[Value.ref b] below meth c H locs 81 11738 Q (F0 m 1413 ls [])) : W p l e room_1 s m #[Value.ref b] below meth c H locs 81 11738 Q (F0 m 526 ls []) := by
  have hA : ∀ q : Nat, s.heap.size ≤ q → (fun q : Nat => s.heap.size ≤ q) q := fun _ h => h
  have hbA : ¬ (fun q : Nat => s.heap.size ≤ q) b := Nat.not_le.mpr hbl
  have hP := hP.sub (ws' := [(x0, .inr (10, [.ref (x 0), .ref (x 2), .ref (x 26), .ref (x 21), .ref (x 20), .ref (x 25), .ref (x 29), .ref (x 31), .ref (x 35), .int 0])), ((x 21), .inr (1, [.ref (x 26), .ref (x 22)])), ((x 26), .inr (7, [.ref (x 13), .ref (x 14), .ref (x 15), .int 0, .int 0, .int 10, .int 150, .int 2, .int 0, .int 0])), (y0, .inr (11, mFs r mv0))]) [0, 22, 27, 42] rfl
  have hD := hD.sub (ws' := [(x0, .inr (10, [.ref (x 0), .ref (x 2), .ref (x 26), .ref (x 21), .ref (x 20), .ref (x 25), .ref (x 29), .ref (x 31), .ref (x 35), .int 0])), ((x 21), .inr (1, [.ref (x 26), .ref (x 22)])), ((x 26), .inr (7, [.ref (x 13), .ref (x 14), .ref (x 15), .int 0, .int 0, .int 10, .int 150, .int 2, .int 0, .int 0])), (y0, .inr (11, mFs r mv0))]) [0, 22, 27, 42] (by decide) rfl
  refine lv_aload_n hx hb dL_law_526 rfl (lv_at hl 2 rfl) ?_
  refine lv_aload_n hx hb dL_law_527 rfl (lv_at hl 3 rfl) ?_
  refine lv_iload_n hx hb dL_law_528 rfl (lv_at hl 0 rfl) ?_
  refine lv_iconst (v := 1) hx hb dL_law_529 (by decide) ?_
  refine lv_iadd hx hb dL_law_530 ?_
  refine tI (y := 1) (by decide) ?_
  refine va_sld hx hb hX hbl hbA hS (vp_in_nI (n := 1) (by decide) (by decide)) dL_law_531 ?_
  refine tI (y := xs 1) (congrArg xs (nI_clamp (n := 1) (by decide))) ?_
  refine lv_aload_n hx hb dL_law_532 rfl (lv_at hl 3 rfl) ?_
  refine lv_iload_n hx hb dL_law_533 rfl (lv_at hl 0 rfl) ?_
  refine lv_iconst (v := 2) hx hb dL_law_534 (by decide) ?_
  refine lv_iadd hx hb dL_law_535 ?_
  refine tI (y := 2) (by decide) ?_
  refine va_sld hx hb hX hbl hbA hS (vp_in_nI (n := 2) (by decide) (by decide)) dL_law_536 ?_
  refine tI (y := xs 2) (congrArg xs (nI_clamp (n := 2) (by decide))) ?_
  refine caVi (n := 2) (wr := [(y0, .inr (11, mFs r mv0))]) (rest := []) hx hb hml hown hts hE hP hD hS hA (cnX10_letout_1 l dC dI cy x0 (x 21) (x 26) (x 0) (x 2) (x 20) (x 25) (x 29) (x 31) (x 35) (x 22) (x 13) (x 14) (x 15) (xs 1) (xs 2)) k_896 k_897 k_898 k_101 k_899 (by decide +kernel) ⟨Nat.le_of_ble_eq_true rfl, Nat.le_of_ble_eq_true rfl⟩ [0, 1, 2] [3] rfl rfl rfl (by decide) (by decide) (by decide) 0 10 rfl rfl rfl hl.1 rfl (Nat.le_of_ble_eq_true rfl) dL_law_537 ⟨Nat.le_of_ble_eq_true rfl, Nat.le_of_ble_eq_true rfl⟩ (fun rr u H locs hw hP hD hS => ?_)
  have hP : va_P (dC, dI) vwCl [(y0, .inr (11, mFs r mv0))] H := hP
  have hD : va_D (fun q : Nat => s.heap.size ≤ q) [(y0, .inr (11, mFs r mv0))] := hD
  refine tI (y := (F_letout (xs 1) (xs 2))) hw ?_
  refine lv_aload_n hx hb dL_law_540 rfl (lv_at hl 1 rfl) ?_
  refine lv_aload_n hx hb dL_law_541 rfl (lv_at hl 3 rfl) ?_
  refine lv_iload_n hx hb dL_law_542 rfl (lv_at hl 0 rfl) ?_
  refine lv_iconst (v := 1) hx hb dL_law_543 (by decide) ?_
  refine lv_iadd hx hb dL_law_544 ?_
  refine tI (y := 1) (by decide) ?_
  refine va_sld hx hb hX hbl hbA hS (vp_in_nI (n := 1) (by decide) (by decide)) dL_law_545 ?_
  refine tI (y := xs 1) (congrArg xs (nI_clamp (n := 1) (by decide))) ?_
  refine lv_aload_n hx hb dL_law_546 rfl (lv_at hl 3 rfl) ?_
  refine lv_iload_n hx hb dL_law_547 rfl (lv_at hl 0 rfl) ?_
  refine lv_iconst (v := 2) hx hb dL_law_548 (by decide) ?_
  refine lv_iadd hx hb dL_law_549 ?_
  refine tI (y := 2) (by decide) ?_
  refine va_sld hx hb hX hbl hbA hS (vp_in_nI (n := 2) (by decide) (by decide)) dL_law_550 ?_
  refine tI (y := xs 2) (congrArg xs (nI_clamp (n := 2) (by decide))) ?_
  refine caVi (n := 2) (wr := []) (rest := [.int (F_letout (xs 1) (xs 2))]) hx hb hml hown hts hE hP hD hS hA (cnX11_letout_1 l dC dI cy y0 r (xs 1) (xs 2)) k_1825 k_1826 k_1827 k_114 k_1828 (by decide +kernel) ⟨Nat.le_of_ble_eq_true rfl, Nat.le_of_ble_eq_true rfl⟩ [0] [] rfl rfl rfl (by decide) (by decide) (by decide) 0 11 rfl rfl rfl hl.1 rfl (Nat.le_of_ble_eq_true rfl) dL_law_551 ⟨Nat.le_of_ble_eq_true rfl, Nat.le_of_ble_eq_true rfl⟩ (fun rr u H locs hw hP hD hS => ?_)
  have hP : va_P (dC, dI) vwCl [] H := hP
  have hD : va_D (fun q : Nat => s.heap.size ≤ q) [] := hD
  refine tI (y := (F_letout (xs 1) (xs 2))) hw ?_
  refine lv_icmp_eq (tgt := 1413) hx hb dL_law_554 (by decide) (fun _ => ?_) (fun c0 => absurd rfl c0)
  exact fin _ _ _ hS hl
set_option maxHeartbeats 4000000 in
set_option maxRecDepth 100000 in
theorem law_11 {p : Program} {l : Launch} {e : Env} {s : State} {m : MethodId} {below : List Frame} {meth : Method} {c : Code} {dC : Nat → ClassId} {dI : Nat → Nat → Nat} {cy : Nat → ClassId} {b : Nat} {xs : Nat → Int32} {Q : State → Prop} (hx : p.tables.exec = Jvm.exec) (hb : c.code = code) (hml : c.maxLocals = 4) (hown : s.vm.findClass RL = some m.cls) (hts : ∀ w ∈ BIG, w.before #[Value.ref b] s = true) (hE : ENV (dC, dI) cy s) (hX : va_X b 6 xs s s.heap) (hbl : b < s.heap.size) {x0 y0 : Nat} {x r : Nat → Nat} {H : Heap} {locs : List Loc} {ls : Array Slot} (hP : va_P (dC, dI) vwCl (LW cy x0 y0 x r) H) (hD : va_D (fun q : Nat => s.heap.size ≤ q) (LW cy x0 y0 x r)) (hS : va_S (fun q : Nat => s.heap.size ≤ q) s.heap H locs) (hl : lv_has ls 4 [(3, .int 0), (2, .ref y0), (1, .ref x0), (0, .ref b)]) (fin : ∀ (H : Heap) (locs : List Loc) (ls : Array Slot), va_S (fun q : Nat => s.heap.size ≤ q) s.heap H locs → lv_has ls 4 [(3, .int 0), (2, .ref y0), (1, .ref x0), (0, .ref b)] → W p l e room_1 s m #[Value.ref b] below meth c H locs 81 11738 Q (F0 m 1413 ls [])) : W p l e room_1 s m #[Value.ref b] below meth c H locs 81 11738 Q (F0 m 559 ls []) := by
  have hA : ∀ q : Nat, s.heap.size ≤ q → (fun q : Nat => s.heap.size ≤ q) q := fun _ h => h
  have hbA : ¬ (fun q : Nat => s.heap.size ≤ q) b := Nat.not_le.mpr hbl
  have hP := hP.sub (ws' := [(x0, .inr (10, [.ref (x 0), .ref (x 2), .ref (x 26), .ref (x 21), .ref (x 20), .ref (x 25), .ref (x 29), .ref (x 31), .ref (x 35), .int 0])), ((x 21), .inr (1, [.ref (x 26), .ref (x 22)])), ((x 26), .inr (7, [.ref (x 13), .ref (x 14), .ref (x 15), .int 0, .int 0, .int 10, .int 150, .int 2, .int 0, .int 0])), (y0, .inr (11, mFs r mv0))]) [0, 22, 27, 42] rfl
  have hD := hD.sub (ws' := [(x0, .inr (10, [.ref (x 0), .ref (x 2), .ref (x 26), .ref (x 21), .ref (x 20), .ref (x 25), .ref (x 29), .ref (x 31), .ref (x 35), .int 0])), ((x 21), .inr (1, [.ref (x 26), .ref (x 22)])), ((x 26), .inr (7, [.ref (x 13), .ref (x 14), .ref (x 15), .int 0, .int 0, .int 10, .int 150, .int 2, .int 0, .int 0])), (y0, .inr (11, mFs r mv0))]) [0, 22, 27, 42] (by decide) rfl
  refine lv_aload_n hx hb dL_law_559 rfl (lv_at hl 2 rfl) ?_
  refine lv_aload_n hx hb dL_law_560 rfl (lv_at hl 3 rfl) ?_
  refine lv_iload_n hx hb dL_law_561 rfl (lv_at hl 0 rfl) ?_
  refine lv_iconst (v := 1) hx hb dL_law_562 (by decide) ?_
  refine lv_iadd hx hb dL_law_563 ?_
  refine tI (y := 1) (by decide) ?_
  refine va_sld hx hb hX hbl hbA hS (vp_in_nI (n := 1) (by decide) (by decide)) dL_law_564 ?_
  refine tI (y := xs 1) (congrArg xs (nI_clamp (n := 1) (by decide))) ?_
  refine lv_aload_n hx hb dL_law_565 rfl (lv_at hl 3 rfl) ?_
  refine lv_iload_n hx hb dL_law_566 rfl (lv_at hl 0 rfl) ?_
  refine lv_iconst (v := 2) hx hb dL_law_567 (by decide) ?_
  refine lv_iadd hx hb dL_law_568 ?_
  refine tI (y := 2) (by decide) ?_
  refine va_sld hx hb hX hbl hbA hS (vp_in_nI (n := 2) (by decide) (by decide)) dL_law_569 ?_
  refine tI (y := xs 2) (congrArg xs (nI_clamp (n := 2) (by decide))) ?_
  refine caVi (n := 2) (wr := [(y0, .inr (11, mFs r mv0))]) (rest := []) hx hb hml hown hts hE hP hD hS hA (cnX10_takein_1 l dC dI cy x0 (x 21) (x 26) (x 0) (x 2) (x 20) (x 25) (x 29) (x 31) (x 35) (x 22) (x 13) (x 14) (x 15) (xs 1) (xs 2)) k_905 k_906 k_907 k_101 k_908 (by decide +kernel) ⟨Nat.le_of_ble_eq_true rfl, Nat.le_of_ble_eq_true rfl⟩ [0, 1, 2] [3] rfl rfl rfl (by decide) (by decide) (by decide) 0 10 rfl rfl rfl hl.1 rfl (Nat.le_of_ble_eq_true rfl) dL_law_570 ⟨Nat.le_of_ble_eq_true rfl, Nat.le_of_ble_eq_true rfl⟩ (fun rr u H locs hw hP hD hS => ?_)
  have hP : va_P (dC, dI) vwCl [(y0, .inr (11, mFs r mv0))] H := hP
  have hD : va_D (fun q : Nat => s.heap.size ≤ q) [(y0, .inr (11, mFs r mv0))] := hD
  refine tI (y := (F_takein (xs 1) (xs 2))) hw ?_
  refine lv_aload_n hx hb dL_law_573 rfl (lv_at hl 1 rfl) ?_
  refine lv_aload_n hx hb dL_law_574 rfl (lv_at hl 3 rfl) ?_
  refine lv_iload_n hx hb dL_law_575 rfl (lv_at hl 0 rfl) ?_
  refine lv_iconst (v := 1) hx hb dL_law_576 (by decide) ?_
  refine lv_iadd hx hb dL_law_577 ?_
  refine tI (y := 1) (by decide) ?_
  refine va_sld hx hb hX hbl hbA hS (vp_in_nI (n := 1) (by decide) (by decide)) dL_law_578 ?_
  refine tI (y := xs 1) (congrArg xs (nI_clamp (n := 1) (by decide))) ?_
  refine lv_aload_n hx hb dL_law_579 rfl (lv_at hl 3 rfl) ?_
  refine lv_iload_n hx hb dL_law_580 rfl (lv_at hl 0 rfl) ?_
  refine lv_iconst (v := 2) hx hb dL_law_581 (by decide) ?_
  refine lv_iadd hx hb dL_law_582 ?_
  refine tI (y := 2) (by decide) ?_
  refine va_sld hx hb hX hbl hbA hS (vp_in_nI (n := 2) (by decide) (by decide)) dL_law_583 ?_
  refine tI (y := xs 2) (congrArg xs (nI_clamp (n := 2) (by decide))) ?_
  refine caVi (n := 2) (wr := []) (rest := [.int (F_takein (xs 1) (xs 2))]) hx hb hml hown hts hE hP hD hS hA (cnX11_takein_1 l dC dI cy y0 r (xs 1) (xs 2)) k_1829 k_1830 k_1831 k_114 k_1832 (by decide +kernel) ⟨Nat.le_of_ble_eq_true rfl, Nat.le_of_ble_eq_true rfl⟩ [0] [] rfl rfl rfl (by decide) (by decide) (by decide) 0 11 rfl rfl rfl hl.1 rfl (Nat.le_of_ble_eq_true rfl) dL_law_584 ⟨Nat.le_of_ble_eq_true rfl, Nat.le_of_ble_eq_true rfl⟩ (fun rr u H locs hw hP hD hS => ?_)
  have hP : va_P (dC, dI) vwCl [] H := hP
  have hD : va_D (fun q : Nat => s.heap.size ≤ q) [] := hD
  refine tI (y := (F_takein (xs 1) (xs 2))) hw ?_
  refine lv_icmp_eq (tgt := 1413) hx hb dL_law_587 (by decide) (fun _ => ?_) (fun c0 => absurd rfl c0)
  exact fin _ _ _ hS hl
set_option maxHeartbeats 4000000 in
set_option maxRecDepth 100000 in
theorem law_12 {p : Program} {l : Launch} {e : Env} {s : State} {m : MethodId} {below : List Frame} {meth : Method} {c : Code} {dC : Nat → ClassId} {dI : Nat → Nat → Nat} {cy : Nat → ClassId} {b : Nat} {xs : Nat → Int32} {Q : State → Prop} (hx : p.tables.exec = Jvm.exec) (hb : c.code = code) (hml : c.maxLocals = 4) (hown : s.vm.findClass RL = some m.cls) (hts : ∀ w ∈ BIG, w.before #[Value.ref b] s = true) (hE : ENV (dC, dI) cy s) (hX : va_X b 6 xs s s.heap) (hbl : b < s.heap.size) {x0 y0 : Nat} {x r : Nat → Nat} {H : Heap} {locs : List Loc} {ls : Array Slot} (hP : va_P (dC, dI) vwCl (LW cy x0 y0 x r) H) (hD : va_D (fun q : Nat => s.heap.size ≤ q) (LW cy x0 y0 x r)) (hS : va_S (fun q : Nat => s.heap.size ≤ q) s.heap H locs) (hl : lv_has ls 4 [(3, .int 0), (2, .ref y0), (1, .ref x0), (0, .ref b)]) (fin : ∀ (H : Heap) (locs : List Loc) (ls : Array Slot), va_S (fun q : Nat => s.heap.size ≤ q) s.heap H locs → lv_has ls 4 [(3, .int 0), (2, .ref y0), (1, .ref x0), (0, .ref b)] → W p l e room_1 s m #[Value.ref b] below meth c H locs 81 11738 Q (F0 m 1413 ls [])) : W p l e room_1 s m #[Value.ref b] below meth c H locs 81 11738 Q (F0 m 592 ls []) := by
  have hA : ∀ q : Nat, s.heap.size ≤ q → (fun q : Nat => s.heap.size ≤ q) q := fun _ h => h
  have hbA : ¬ (fun q : Nat => s.heap.size ≤ q) b := Nat.not_le.mpr hbl
  have hP := hP.sub (ws' := [(x0, .inr (10, [.ref (x 0), .ref (x 2), .ref (x 26), .ref (x 21), .ref (x 20), .ref (x 25), .ref (x 29), .ref (x 31), .ref (x 35), .int 0])), ((x 21), .inr (1, [.ref (x 26), .ref (x 22)])), ((x 26), .inr (7, [.ref (x 13), .ref (x 14), .ref (x 15), .int 0, .int 0, .int 10, .int 150, .int 2, .int 0, .int 0])), (y0, .inr (11, mFs r mv0))]) [0, 22, 27, 42] rfl
  have hD := hD.sub (ws' := [(x0, .inr (10, [.ref (x 0), .ref (x 2), .ref (x 26), .ref (x 21), .ref (x 20), .ref (x 25), .ref (x 29), .ref (x 31), .ref (x 35), .int 0])), ((x 21), .inr (1, [.ref (x 26), .ref (x 22)])), ((x 26), .inr (7, [.ref (x 13), .ref (x 14), .ref (x 15), .int 0, .int 0, .int 10, .int 150, .int 2, .int 0, .int 0])), (y0, .inr (11, mFs r mv0))]) [0, 22, 27, 42] (by decide) rfl
  refine lv_aload_n hx hb dL_law_592 rfl (lv_at hl 2 rfl) ?_
  refine lv_aload_n hx hb dL_law_593 rfl (lv_at hl 3 rfl) ?_
  refine lv_iload_n hx hb dL_law_594 rfl (lv_at hl 0 rfl) ?_
  refine lv_iconst (v := 1) hx hb dL_law_595 (by decide) ?_
  refine lv_iadd hx hb dL_law_596 ?_
  refine tI (y := 1) (by decide) ?_
  refine va_sld hx hb hX hbl hbA hS (vp_in_nI (n := 1) (by decide) (by decide)) dL_law_597 ?_
  refine tI (y := xs 1) (congrArg xs (nI_clamp (n := 1) (by decide))) ?_
  refine lv_aload_n hx hb dL_law_598 rfl (lv_at hl 3 rfl) ?_
  refine lv_iload_n hx hb dL_law_599 rfl (lv_at hl 0 rfl) ?_
  refine lv_iconst (v := 2) hx hb dL_law_600 (by decide) ?_
  refine lv_iadd hx hb dL_law_601 ?_
  refine tI (y := 2) (by decide) ?_
  refine va_sld hx hb hX hbl hbA hS (vp_in_nI (n := 2) (by decide) (by decide)) dL_law_602 ?_
  refine tI (y := xs 2) (congrArg xs (nI_clamp (n := 2) (by decide))) ?_
  refine caVi (n := 2) (wr := [(y0, .inr (11, mFs r mv0))]) (rest := []) hx hb hml hown hts hE hP hD hS hA (cnX10_hem_1 l dC dI cy x0 (x 21) (x 26) (x 0) (x 2) (x 20) (x 25) (x 29) (x 31) (x 35) (x 22) (x 13) (x 14) (x 15) (xs 1) (xs 2)) k_909 k_910 k_911 k_101 k_912 (by decide +kernel) ⟨Nat.le_of_ble_eq_true rfl, Nat.le_of_ble_eq_true rfl⟩ [0, 1, 2] [3] rfl rfl rfl (by decide) (by decide) (by decide) 0 10 rfl rfl rfl hl.1 rfl (Nat.le_of_ble_eq_true rfl) dL_law_603 ⟨Nat.le_of_ble_eq_true rfl, Nat.le_of_ble_eq_true rfl⟩ (fun rr u H locs hw hP hD hS => ?_)
  have hP : va_P (dC, dI) vwCl [(y0, .inr (11, mFs r mv0))] H := hP
  have hD : va_D (fun q : Nat => s.heap.size ≤ q) [(y0, .inr (11, mFs r mv0))] := hD
  refine tI (y := (F_hem (xs 1) (xs 2))) hw ?_
  refine lv_aload_n hx hb dL_law_606 rfl (lv_at hl 1 rfl) ?_
  refine lv_aload_n hx hb dL_law_607 rfl (lv_at hl 3 rfl) ?_
  refine lv_iload_n hx hb dL_law_608 rfl (lv_at hl 0 rfl) ?_
  refine lv_iconst (v := 1) hx hb dL_law_609 (by decide) ?_
  refine lv_iadd hx hb dL_law_610 ?_
  refine tI (y := 1) (by decide) ?_
  refine va_sld hx hb hX hbl hbA hS (vp_in_nI (n := 1) (by decide) (by decide)) dL_law_611 ?_
  refine tI (y := xs 1) (congrArg xs (nI_clamp (n := 1) (by decide))) ?_
  refine lv_aload_n hx hb dL_law_612 rfl (lv_at hl 3 rfl) ?_
  refine lv_iload_n hx hb dL_law_613 rfl (lv_at hl 0 rfl) ?_
  refine lv_iconst (v := 2) hx hb dL_law_614 (by decide) ?_
  refine lv_iadd hx hb dL_law_615 ?_
  refine tI (y := 2) (by decide) ?_
  refine va_sld hx hb hX hbl hbA hS (vp_in_nI (n := 2) (by decide) (by decide)) dL_law_616 ?_
  refine tI (y := xs 2) (congrArg xs (nI_clamp (n := 2) (by decide))) ?_
  refine caVi (n := 2) (wr := []) (rest := [.int (F_hem (xs 1) (xs 2))]) hx hb hml hown hts hE hP hD hS hA (cnX11_hem_1 l dC dI cy y0 r (xs 1) (xs 2)) k_1833 k_1834 k_1835 k_114 k_1836 (by decide +kernel) ⟨Nat.le_of_ble_eq_true rfl, Nat.le_of_ble_eq_true rfl⟩ [0] [] rfl rfl rfl (by decide) (by decide) (by decide) 0 11 rfl rfl rfl hl.1 rfl (Nat.le_of_ble_eq_true rfl) dL_law_617 ⟨Nat.le_of_ble_eq_true rfl, Nat.le_of_ble_eq_true rfl⟩ (fun rr u H locs hw hP hD hS => ?_)
  have hP : va_P (dC, dI) vwCl [] H := hP
  have hD : va_D (fun q : Nat => s.heap.size ≤ q) [] := hD
  refine tI (y := (F_hem (xs 1) (xs 2))) hw ?_
  refine lv_icmp_eq (tgt := 1413) hx hb dL_law_620 (by decide) (fun _ => ?_) (fun c0 => absurd rfl c0)
  exact fin _ _ _ hS hl
set_option maxHeartbeats 4000000 in
set_option maxRecDepth 100000 in
theorem law_13 {p : Program} {l : Launch} {e : Env} {s : State} {m : MethodId} {below : List Frame} {meth : Method} {c : Code} {dC : Nat → ClassId} {dI : Nat → Nat → Nat} {cy : Nat → ClassId} {b : Nat} {xs : Nat → Int32} {Q : State → Prop} (hx : p.tables.exec = Jvm.exec) (hb : c.code = code) (hml : c.maxLocals = 4) (hown : s.vm.findClass RL = some m.cls) (hts : ∀ w ∈ BIG, w.before #[Value.ref b] s = true) (hE : ENV (dC, dI) cy s) (hX : va_X b 6 xs s s.heap) (hbl : b < s.heap.size) {x0 y0 : Nat} {x r : Nat → Nat} {H : Heap} {locs : List Loc} {ls : Array Slot} (hP : va_P (dC, dI) vwCl (LW cy x0 y0 x r) H) (hD : va_D (fun q : Nat => s.heap.size ≤ q) (LW cy x0 y0 x r)) (hS : va_S (fun q : Nat => s.heap.size ≤ q) s.heap H locs) (hl : lv_has ls 4 [(3, .int 0), (2, .ref y0), (1, .ref x0), (0, .ref b)]) (fin : ∀ (H : Heap) (locs : List Loc) (ls : Array Slot), va_S (fun q : Nat => s.heap.size ≤ q) s.heap H locs → lv_has ls 4 [(3, .int 0), (2, .ref y0), (1, .ref x0), (0, .ref b)] → W p l e room_1 s m #[Value.ref b] below meth c H locs 81 11738 Q (F0 m 1413 ls [])) : W p l e room_1 s m #[Value.ref b] below meth c H locs 81 11738 Q (F0 m 625 ls []) := by
  have hA : ∀ q : Nat, s.heap.size ≤ q → (fun q : Nat => s.heap.size ≤ q) q := fun _ h => h
  have hbA : ¬ (fun q : Nat => s.heap.size ≤ q) b := Nat.not_le.mpr hbl
  have hP := hP.sub (ws' := [(x0, .inr (10, [.ref (x 0), .ref (x 2), .ref (x 26), .ref (x 21), .ref (x 20), .ref (x 25), .ref (x 29), .ref (x 31), .ref (x 35), .int 0])), ((x 26), .inr (7, [.ref (x 13), .ref (x 14), .ref (x 15), .int 0, .int 0, .int 10, .int 150, .int 2, .int 0, .int 0])), (y0, .inr (11, mFs r mv0))]) [0, 27, 42] rfl
  have hD := hD.sub (ws' := [(x0, .inr (10, [.ref (x 0), .ref (x 2), .ref (x 26), .ref (x 21), .ref (x 20), .ref (x 25), .ref (x 29), .ref (x 31), .ref (x 35), .int 0])), ((x 26), .inr (7, [.ref (x 13), .ref (x 14), .ref (x 15), .int 0, .int 0, .int 10, .int 150, .int 2, .int 0, .int 0])), (y0, .inr (11, mFs r mv0))]) [0, 27, 42] (by decide) rfl
  refine lv_aload_n hx hb dL_law_625 rfl (lv_at hl 2 rfl) ?_
  refine lv_aload_n hx hb dL_law_626 rfl (lv_at hl 3 rfl) ?_
  refine lv_iload_n hx hb dL_law_627 rfl (lv_at hl 0 rfl) ?_
  refine lv_iconst (v := 1) hx hb dL_law_628 (by decide) ?_
  refine lv_iadd hx hb dL_law_629 ?_
  refine tI (y := 1) (by decide) ?_
  refine va_sld hx hb hX hbl hbA hS (vp_in_nI (n := 1) (by decide) (by decide)) dL_law_630 ?_
  refine tI (y := xs 1) (congrArg xs (nI_clamp (n := 1) (by decide))) ?_
  refine caVi (n := 1) (wr := [(y0, .inr (11, mFs r mv0))]) (rest := []) hx hb hml hown hts hE hP hD hS hA (cnX10_turn_1 l dC dI cy x0 (x 26) (x 0) (x 2) (x 21) (x 20) (x 25) (x 29) (x 31) (x 35) (x 13) (x 14) (x 15) (xs 1)) k_913 k_914 k_915 k_101 k_916 (by decide +kernel) ⟨Nat.le_of_ble_eq_true rfl, Nat.le_of_ble_eq_true rfl⟩ [0, 1] [2] rfl rfl rfl (by decide) (by decide) (by decide) 0 10 rfl rfl rfl hl.1 rfl (Nat.le_of_ble_eq_true rfl) dL_law_631 ⟨Nat.le_of_ble_eq_true rfl, Nat.le_of_ble_eq_true rfl⟩ (fun rr u H locs hw hP hD hS => ?_)
  have hP : va_P (dC, dI) vwCl [(y0, .inr (11, mFs r mv0))] H := hP
  have hD : va_D (fun q : Nat => s.heap.size ≤ q) [(y0, .inr (11, mFs r mv0))] := hD
  refine tI (y := (F_turn (xs 1))) hw ?_
  refine lv_aload_n hx hb dL_law_634 rfl (lv_at hl 1 rfl) ?_
  refine lv_aload_n hx hb dL_law_635 rfl (lv_at hl 3 rfl) ?_
  refine lv_iload_n hx hb dL_law_636 rfl (lv_at hl 0 rfl) ?_
  refine lv_iconst (v := 1) hx hb dL_law_637 (by decide) ?_
  refine lv_iadd hx hb dL_law_638 ?_
  refine tI (y := 1) (by decide) ?_
  refine va_sld hx hb hX hbl hbA hS (vp_in_nI (n := 1) (by decide) (by decide)) dL_law_639 ?_
  refine tI (y := xs 1) (congrArg xs (nI_clamp (n := 1) (by decide))) ?_
  refine caVi (n := 1) (wr := []) (rest := [.int (F_turn (xs 1))]) hx hb hml hown hts hE hP hD hS hA (cnX11_turn_1 l dC dI cy y0 r (xs 1)) k_1837 k_1838 k_1839 k_114 k_1840 (by decide +kernel) ⟨Nat.le_of_ble_eq_true rfl, Nat.le_of_ble_eq_true rfl⟩ [0] [] rfl rfl rfl (by decide) (by decide) (by decide) 0 11 rfl rfl rfl hl.1 rfl (Nat.le_of_ble_eq_true rfl) dL_law_640 ⟨Nat.le_of_ble_eq_true rfl, Nat.le_of_ble_eq_true rfl⟩ (fun rr u H locs hw hP hD hS => ?_)
  have hP : va_P (dC, dI) vwCl [] H := hP
  have hD : va_D (fun q : Nat => s.heap.size ≤ q) [] := hD
  refine tI (y := (F_turn (xs 1))) hw ?_
  refine lv_icmp_eq (tgt := 1413) hx hb dL_law_643 (by decide) (fun _ => ?_) (fun c0 => absurd rfl c0)
  exact fin _ _ _ hS hl
set_option maxHeartbeats 4000000 in
set_option maxRecDepth 100000 in
theorem law_14 {p : Program} {l : Launch} {e : Env} {s : State} {m : MethodId} {below : List Frame} {meth : Method} {c : Code} {dC : Nat → ClassId} {dI : Nat → Nat → Nat} {cy : Nat → ClassId} {b : Nat} {xs : Nat → Int32} {Q : State → Prop} (hx : p.tables.exec = Jvm.exec) (hb : c.code = code) (hml : c.maxLocals = 4) (hown : s.vm.findClass RL = some m.cls) (hts : ∀ w ∈ BIG, w.before #[Value.ref b] s = true) (hE : ENV (dC, dI) cy s) (hX : va_X b 6 xs s s.heap) (hbl : b < s.heap.size) {x0 y0 : Nat} {x r : Nat → Nat} {H : Heap} {locs : List Loc} {ls : Array Slot} (hP : va_P (dC, dI) vwCl (LW cy x0 y0 x r) H) (hD : va_D (fun q : Nat => s.heap.size ≤ q) (LW cy x0 y0 x r)) (hS : va_S (fun q : Nat => s.heap.size ≤ q) s.heap H locs) (hl : lv_has ls 4 [(3, .int 0), (2, .ref y0), (1, .ref x0), (0, .ref b)]) (fin : ∀ (H : Heap) (locs : List Loc) (ls : Array Slot), va_S (fun q : Nat => s.heap.size ≤ q) s.heap H locs → lv_has ls 4 [(3, .int 0), (2, .ref y0), (1, .ref x0), (0, .ref b)] → W p l e room_1 s m #[Value.ref b] below meth c H locs 81 11738 Q (F0 m 1413 ls [])) : W p l e room_1 s m #[Value.ref b] below meth c H locs 81 11738 Q (F0 m 648 ls []) := by
  have hA : ∀ q : Nat, s.heap.size ≤ q → (fun q : Nat => s.heap.size ≤ q) q := fun _ h => h
  have hbA : ¬ (fun q : Nat => s.heap.size ≤ q) b := Nat.not_le.mpr hbl
  have hP := hP.sub (ws' := [(x0, .inr (10, [.ref (x 0), .ref (x 2), .ref (x 26), .ref (x 21), .ref (x 20), .ref (x 25), .ref (x 29), .ref (x 31), .ref (x 35), .int 0])), ((x 20), .inr (5, [.ref (x 21), .ref (x 24), .ref (x 23), .int 0, .int 0, .int 0, .int 0])), (y0, .inr (11, mFs r mv0))]) [0, 21, 42] rfl
  have hD := hD.sub (ws' := [(x0, .inr (10, [.ref (x 0), .ref (x 2), .ref (x 26), .ref (x 21), .ref (x 20), .ref (x 25), .ref (x 29), .ref (x 31), .ref (x 35), .int 0])), ((x 20), .inr (5, [.ref (x 21), .ref (x 24), .ref (x 23), .int 0, .int 0, .int 0, .int 0])), (y0, .inr (11, mFs r mv0))]) [0, 21, 42] (by decide) rfl
  refine lv_aload_n hx hb dL_law_648 rfl (lv_at hl 2 rfl) ?_
  refine caVi (n := 0) (wr := [(y0, .inr (11, mFs r mv0))]) (rest := []) hx hb hml hown hts hE hP hD hS hA (cnX10_undo_1 l dC dI cy x0 (x 20) (x 0) (x 2) (x 26) (x 21) (x 25) (x 29) (x 31) (x 35) (x 24) (x 23)) k_917 k_918 k_919 k_101 k_920 (by decide +kernel) ⟨Nat.le_of_ble_eq_true rfl, Nat.le_of_ble_eq_true rfl⟩ [0, 1] [2] rfl rfl rfl (by decide) (by decide) (by decide) 0 10 rfl rfl rfl hl.1 rfl (Nat.le_of_ble_eq_true rfl) dL_law_649 ⟨Nat.le_of_ble_eq_true rfl, Nat.le_of_ble_eq_true rfl⟩ (fun rr u H locs hw hP hD hS => ?_)
  have hP : va_P (dC, dI) vwCl [(y0, .inr (11, mFs r mv0))] H := hP
  have hD : va_D (fun q : Nat => s.heap.size ≤ q) [(y0, .inr (11, mFs r mv0))] := hD
  refine tI (y := (F_undo)) hw ?_
  refine lv_aload_n hx hb dL_law_652 rfl (lv_at hl 1 rfl) ?_
  refine caVi (n := 0) (wr := []) (rest := [.int (F_undo)]) hx hb hml hown hts hE hP hD hS hA (cnX11_undo_1 l dC dI cy y0 r) k_1841 k_1842 k_1843 k_114 k_1844 (by decide +kernel) ⟨Nat.le_of_ble_eq_true rfl, Nat.le_of_ble_eq_true rfl⟩ [0] [] rfl rfl rfl (by decide) (by decide) (by decide) 0 11 rfl rfl rfl hl.1 rfl (Nat.le_of_ble_eq_true rfl) dL_law_653 ⟨Nat.le_of_ble_eq_true rfl, Nat.le_of_ble_eq_true rfl⟩ (fun rr u H locs hw hP hD hS => ?_)
  have hP : va_P (dC, dI) vwCl [] H := hP
  have hD : va_D (fun q : Nat => s.heap.size ≤ q) [] := hD
  refine tI (y := (F_undo)) hw ?_
  refine lv_icmp_eq (tgt := 1413) hx hb dL_law_656 (by decide) (fun _ => ?_) (fun c0 => absurd rfl c0)
  exact fin _ _ _ hS hl
set_option maxHeartbeats 4000000 in
set_option maxRecDepth 100000 in
theorem law_15 {p : Program} {l : Launch} {e : Env} {s : State} {m : MethodId} {below : List Frame} {meth : Method} {c : Code} {dC : Nat → ClassId} {dI : Nat → Nat → Nat} {cy : Nat → ClassId} {b : Nat} {xs : Nat → Int32} {Q : State → Prop} (hx : p.tables.exec = Jvm.exec) (hb : c.code = code) (hml : c.maxLocals = 4) (hown : s.vm.findClass RL = some m.cls) (hts : ∀ w ∈ BIG, w.before #[Value.ref b] s = true) (hE : ENV (dC, dI) cy s) (hX : va_X b 6 xs s s.heap) (hbl : b < s.heap.size) {x0 y0 : Nat} {x r : Nat → Nat} {H : Heap} {locs : List Loc} {ls : Array Slot} (hP : va_P (dC, dI) vwCl (LW cy x0 y0 x r) H) (hD : va_D (fun q : Nat => s.heap.size ≤ q) (LW cy x0 y0 x r)) (hS : va_S (fun q : Nat => s.heap.size ≤ q) s.heap H locs) (hl : lv_has ls 4 [(3, .int 0), (2, .ref y0), (1, .ref x0), (0, .ref b)]) (fin : ∀ (H : Heap) (locs : List Loc) (ls : Array Slot), va_S (fun q : Nat => s.heap.size ≤ q) s.heap H locs → lv_has ls 4 [(3, .int 0), (2, .ref y0), (1, .ref x0), (0, .ref b)] → W p l e room_1 s m #[Value.ref b] below meth c H locs 81 11738 Q (F0 m 1413 ls [])) : W p l e room_1 s m #[Value.ref b] below meth c H locs 81 11738 Q (F0 m 661 ls []) := by
  have hA : ∀ q : Nat, s.heap.size ≤ q → (fun q : Nat => s.heap.size ≤ q) q := fun _ h => h
  have hbA : ¬ (fun q : Nat => s.heap.size ≤ q) b := Nat.not_le.mpr hbl
  have hP := hP.sub (ws' := [(x0, .inr (10, [.ref (x 0), .ref (x 2), .ref (x 26), .ref (x 21), .ref (x 20), .ref (x 25), .ref (x 29), .ref (x 31), .ref (x 35), .int 0])), ((x 20), .inr (5, [.ref (x 21), .ref (x 24), .ref (x 23), .int 0, .int 0, .int 0, .int 0])), (y0, .inr (11, mFs r mv0))]) [0, 21, 42] rfl
  have hD := hD.sub (ws' := [(x0, .inr (10, [.ref (x 0), .ref (x 2), .ref (x 26), .ref (x 21), .ref (x 20), .ref (x 25), .ref (x 29), .ref (x 31), .ref (x 35), .int 0])), ((x 20), .inr (5, [.ref (x 21), .ref (x 24), .ref (x 23), .int 0, .int 0, .int 0, .int 0])), (y0, .inr (11, mFs r mv0))]) [0, 21, 42] (by decide) rfl
  refine lv_aload_n hx hb dL_law_661 rfl (lv_at hl 2 rfl) ?_
  refine caVi (n := 0) (wr := [(y0, .inr (11, mFs r mv0))]) (rest := []) hx hb hml hown hts hE hP hD hS hA (cnX10_redo_1 l dC dI cy x0 (x 20) (x 0) (x 2) (x 26) (x 21) (x 25) (x 29) (x 31) (x 35) (x 24) (x 23)) k_929 k_930 k_931 k_101 k_932 (by decide +kernel) ⟨Nat.le_of_ble_eq_true rfl, Nat.le_of_ble_eq_true rfl⟩ [0, 1] [2] rfl rfl rfl (by decide) (by decide) (by decide) 0 10 rfl rfl rfl hl.1 rfl (Nat.le_of_ble_eq_true rfl) dL_law_662 ⟨Nat.le_of_ble_eq_true rfl, Nat.le_of_ble_eq_true rfl⟩ (fun rr u H locs hw hP hD hS => ?_)
  have hP : va_P (dC, dI) vwCl [(y0, .inr (11, mFs r mv0))] H := hP
  have hD : va_D (fun q : Nat => s.heap.size ≤ q) [(y0, .inr (11, mFs r mv0))] := hD
  refine tI (y := (F_redo)) hw ?_
  refine lv_aload_n hx hb dL_law_665 rfl (lv_at hl 1 rfl) ?_
  refine caVi (n := 0) (wr := []) (rest := [.int (F_redo)]) hx hb hml hown hts hE hP hD hS hA (cnX11_redo_1 l dC dI cy y0 r) k_1849 k_1850 k_1851 k_114 k_1852 (by decide +kernel) ⟨Nat.le_of_ble_eq_true rfl, Nat.le_of_ble_eq_true rfl⟩ [0] [] rfl rfl rfl (by decide) (by decide) (by decide) 0 11 rfl rfl rfl hl.1 rfl (Nat.le_of_ble_eq_true rfl) dL_law_666 ⟨Nat.le_of_ble_eq_true rfl, Nat.le_of_ble_eq_true rfl⟩ (fun rr u H locs hw hP hD hS => ?_)
  have hP : va_P (dC, dI) vwCl [] H := hP
  have hD : va_D (fun q : Nat => s.heap.size ≤ q) [] := hD
  refine tI (y := (F_redo)) hw ?_
  refine lv_icmp_eq (tgt := 1413) hx hb dL_law_669 (by decide) (fun _ => ?_) (fun c0 => absurd rfl c0)
  exact fin _ _ _ hS hl
set_option maxHeartbeats 4000000 in
set_option maxRecDepth 100000 in
theorem law_16 {p : Program} {l : Launch} {e : Env} {s : State} {m : MethodId} {below : List Frame} {meth : Method} {c : Code} {dC : Nat → ClassId} {dI : Nat → Nat → Nat} {cy : Nat → ClassId} {b : Nat} {xs : Nat → Int32} {Q : State → Prop} (hx : p.tables.exec = Jvm.exec) (hb : c.code = code) (hml : c.maxLocals = 4) (hown : s.vm.findClass RL = some m.cls) (hts : ∀ w ∈ BIG, w.before #[Value.ref b] s = true) (hE : ENV (dC, dI) cy s) (hX : va_X b 6 xs s s.heap) (hbl : b < s.heap.size) {x0 y0 : Nat} {x r : Nat → Nat} {H : Heap} {locs : List Loc} {ls : Array Slot} (hP : va_P (dC, dI) vwCl (LW cy x0 y0 x r) H) (hD : va_D (fun q : Nat => s.heap.size ≤ q) (LW cy x0 y0 x r)) (hS : va_S (fun q : Nat => s.heap.size ≤ q) s.heap H locs) (hl : lv_has ls 4 [(3, .int 0), (2, .ref y0), (1, .ref x0), (0, .ref b)]) (fin : ∀ (H : Heap) (locs : List Loc) (ls : Array Slot), va_S (fun q : Nat => s.heap.size ≤ q) s.heap H locs → lv_has ls 4 [(3, .int 0), (2, .ref y0), (1, .ref x0), (0, .ref b)] → W p l e room_1 s m #[Value.ref b] below meth c H locs 81 11738 Q (F0 m 1413 ls [])) : W p l e room_1 s m #[Value.ref b] below meth c H locs 81 11738 Q (F0 m 674 ls []) := by
  have hA : ∀ q : Nat, s.heap.size ≤ q → (fun q : Nat => s.heap.size ≤ q) q := fun _ h => h
  have hbA : ¬ (fun q : Nat => s.heap.size ≤ q) b := Nat.not_le.mpr hbl
  have hP := hP.sub (ws' := [(x0, .inr (10, [.ref (x 0), .ref (x 2), .ref (x 26), .ref (x 21), .ref (x 20), .ref (x 25), .ref (x 29), .ref (x 31), .ref (x 35), .int 0])), ((x 26), .inr (7, [.ref (x 13), .ref (x 14), .ref (x 15), .int 0, .int 0, .int 10, .int 150, .int 2, .int 0, .int 0])), (y0, .inr (11, mFs r mv0))]) [0, 27, 42] rfl
  have hD := hD.sub (ws' := [(x0, .inr (10, [.ref (x 0), .ref (x 2), .ref (x 26), .ref (x 21), .ref (x 20), .ref (x 25), .ref (x 29), .ref (x 31), .ref (x 35), .int 0])), ((x 26), .inr (7, [.ref (x 13), .ref (x 14), .ref (x 15), .int 0, .int 0, .int 10, .int 150, .int 2, .int 0, .int 0])), (y0, .inr (11, mFs r mv0))]) [0, 27, 42] (by decide) rfl
  refine lv_aload_n hx hb dL_law_674 rfl (lv_at hl 2 rfl) ?_
  refine lv_aload_n hx hb dL_law_675 rfl (lv_at hl 3 rfl) ?_
  refine lv_iload_n hx hb dL_law_676 rfl (lv_at hl 0 rfl) ?_
  refine lv_iconst (v := 1) hx hb dL_law_677 (by decide) ?_
  refine lv_iadd hx hb dL_law_678 ?_
  refine tI (y := 1) (by decide) ?_
  refine va_sld hx hb hX hbl hbA hS (vp_in_nI (n := 1) (by decide) (by decide)) dL_law_679 ?_
  refine tI (y := xs 1) (congrArg xs (nI_clamp (n := 1) (by decide))) ?_
  refine lv_aload_n hx hb dL_law_680 rfl (lv_at hl 3 rfl) ?_
  refine lv_iload_n hx hb dL_law_681 rfl (lv_at hl 0 rfl) ?_
  refine lv_iconst (v := 2) hx hb dL_law_682 (by decide) ?_
  refine lv_iadd hx hb dL_law_683 ?_
  refine tI (y := 2) (by decide) ?_
  refine va_sld hx hb hX hbl hbA hS (vp_in_nI (n := 2) (by decide) (by decide)) dL_law_684 ?_
  refine tI (y := xs 2) (congrArg xs (nI_clamp (n := 2) (by decide))) ?_
  refine lv_aload_n hx hb dL_law_685 rfl (lv_at hl 3 rfl) ?_
  refine lv_iload_n hx hb dL_law_686 rfl (lv_at hl 0 rfl) ?_
  refine lv_iconst (v := 3) hx hb dL_law_687 (by decide) ?_
  refine lv_iadd hx hb dL_law_688 ?_
  refine tI (y := 3) (by decide) ?_
  refine va_sld hx hb hX hbl hbA hS (vp_in_nI (n := 3) (by decide) (by decide)) dL_law_689 ?_
  refine tI (y := xs 3) (congrArg xs (nI_clamp (n := 3) (by decide))) ?_
  refine caVi (n := 3) (wr := [(y0, .inr (11, mFs r mv0))]) (rest := []) hx hb hml hown hts hE hP hD hS hA (cnX10_will_1 l dC dI cy x0 (x 26) (x 0) (x 2) (x 21) (x 20) (x 25) (x 29) (x 31) (x 35) (x 13) (x 14) (x 15) (xs 1) (xs 2) (xs 3)) k_937 k_938 k_939 k_101 k_940 (by decide +kernel) ⟨Nat.le_of_ble_eq_true rfl, Nat.le_of_ble_eq_true rfl⟩ [0, 1] [2] rfl rfl rfl (by decide) (by decide) (by decide) 0 10 rfl rfl rfl hl.1 rfl (Nat.le_of_ble_eq_true rfl) dL_law_690 ⟨Nat.le_of_ble_eq_true rfl, Nat.le_of_ble_eq_true rfl⟩ (fun rr u H locs hw hP hD hS => ?_)
  have hP : va_P (dC, dI) vwCl [(y0, .inr (11, mFs r mv0))] H := hP
  have hD : va_D (fun q : Nat => s.heap.size ≤ q) [(y0, .inr (11, mFs r mv0))] := hD
  refine tI (y := (F_will (xs 1) (xs 2) (xs 3))) hw ?_
  refine lv_aload_n hx hb dL_law_693 rfl (lv_at hl 1 rfl) ?_
  refine lv_aload_n hx hb dL_law_694 rfl (lv_at hl 3 rfl) ?_
  refine lv_iload_n hx hb dL_law_695 rfl (lv_at hl 0 rfl) ?_
  refine lv_iconst (v := 1) hx hb dL_law_696 (by decide) ?_
  refine lv_iadd hx hb dL_law_697 ?_
  refine tI (y := 1) (by decide) ?_
  refine va_sld hx hb hX hbl hbA hS (vp_in_nI (n := 1) (by decide) (by decide)) dL_law_698 ?_
  refine tI (y := xs 1) (congrArg xs (nI_clamp (n := 1) (by decide))) ?_
  refine lv_aload_n hx hb dL_law_699 rfl (lv_at hl 3 rfl) ?_
  refine lv_iload_n hx hb dL_law_700 rfl (lv_at hl 0 rfl) ?_
  refine lv_iconst (v := 2) hx hb dL_law_701 (by decide) ?_
  refine lv_iadd hx hb dL_law_702 ?_
  refine tI (y := 2) (by decide) ?_
  refine va_sld hx hb hX hbl hbA hS (vp_in_nI (n := 2) (by decide) (by decide)) dL_law_703 ?_
  refine tI (y := xs 2) (congrArg xs (nI_clamp (n := 2) (by decide))) ?_
  refine lv_aload_n hx hb dL_law_704 rfl (lv_at hl 3 rfl) ?_
  refine lv_iload_n hx hb dL_law_705 rfl (lv_at hl 0 rfl) ?_
  refine lv_iconst (v := 3) hx hb dL_law_706 (by decide) ?_
  refine lv_iadd hx hb dL_law_707 ?_
  refine tI (y := 3) (by decide) ?_
  refine va_sld hx hb hX hbl hbA hS (vp_in_nI (n := 3) (by decide) (by decide)) dL_law_708 ?_
  refine tI (y := xs 3) (congrArg xs (nI_clamp (n := 3) (by decide))) ?_
  refine caVi (n := 3) (wr := []) (rest := [.int (F_will (xs 1) (xs 2) (xs 3))]) hx hb hml hown hts hE hP hD hS hA (cnX11_will_1 l dC dI cy y0 r (xs 1) (xs 2) (xs 3)) k_1853 k_1854 k_1855 k_114 k_1856 (by decide +kernel) ⟨Nat.le_of_ble_eq_true rfl, Nat.le_of_ble_eq_true rfl⟩ [0] [] rfl rfl rfl (by decide) (by decide) (by decide) 0 11 rfl rfl rfl hl.1 rfl (Nat.le_of_ble_eq_true rfl) dL_law_709 ⟨Nat.le_of_ble_eq_true rfl, Nat.le_of_ble_eq_true rfl⟩ (fun rr u H locs hw hP hD hS => ?_)
  have hP : va_P (dC, dI) vwCl [] H := hP
  have hD : va_D (fun q : Nat => s.heap.size ≤ q) [] := hD
  refine tI (y := (F_will (xs 1) (xs 2) (xs 3))) hw ?_
  refine lv_icmp_eq (tgt := 1413) hx hb dL_law_712 (by decide) (fun _ => ?_) (fun c0 => absurd rfl c0)
  exact fin _ _ _ hS hl
set_option maxHeartbeats 4000000 in
set_option maxRecDepth 100000 in
theorem law_17 {p : Program} {l : Launch} {e : Env} {s : State} {m : MethodId} {below : List Frame} {meth : Method} {c : Code} {dC : Nat → ClassId} {dI : Nat → Nat → Nat} {cy : Nat → ClassId} {b : Nat} {xs : Nat → Int32} {Q : State → Prop} (hx : p.tables.exec = Jvm.exec) (hb : c.code = code) (hml : c.maxLocals = 4) (hown : s.vm.findClass RL = some m.cls) (hts : ∀ w ∈ BIG, w.before #[Value.ref b] s = true) (hE : ENV (dC, dI) cy s) (hX : va_X b 6 xs s s.heap) (hbl : b < s.heap.size) {x0 y0 : Nat} {x r : Nat → Nat} {H : Heap} {locs : List Loc} {ls : Array Slot} (hP : va_P (dC, dI) vwCl (LW cy x0 y0 x r) H) (hD : va_D (fun q : Nat => s.heap.size ≤ q) (LW cy x0 y0 x r)) (hS : va_S (fun q : Nat => s.heap.size ≤ q) s.heap H locs) (hl : lv_has ls 4 [(3, .int 0), (2, .ref y0), (1, .ref x0), (0, .ref b)]) (fin : ∀ (H : Heap) (locs : List Loc) (ls : Array Slot), va_S (fun q : Nat => s.heap.size ≤ q) s.heap H locs → lv_has ls 4 [(3, .int 0), (2, .ref y0), (1, .ref x0), (0, .ref b)] → W p l e room_1 s m #[Value.ref b] below meth c H locs 81 11738 Q (F0 m 1413 ls [])) : W p l e room_1 s m #[Value.ref b] below meth c H locs 81 11738 Q (F0 m 717 ls []) := by
  have hA : ∀ q : Nat, s.heap.size ≤ q → (fun q : Nat => s.heap.size ≤ q) q := fun _ h => h
  have hbA : ¬ (fun q : Nat => s.heap.size ≤ q) b := Nat.not_le.mpr hbl
  have hP := hP.sub (ws' := [(x0, .inr (10, [.ref (x 0), .ref (x 2), .ref (x 26), .ref (x 21), .ref (x 20), .ref (x 25), .ref (x 29), .ref (x 31), .ref (x 35), .int 0])), ((x 26), .inr (7, [.ref (x 13), .ref (x 14), .ref (x 15), .int 0, .int 0, .int 10, .int 150, .int 2, .int 0, .int 0])), (y0, .inr (11, mFs r mv0))]) [0, 27, 42] rfl
  have hD := hD.sub (ws' := [(x0, .inr (10, [.ref (x 0), .ref (x 2), .ref (x 26), .ref (x 21), .ref (x 20), .ref (x 25), .ref (x 29), .ref (x 31), .ref (x 35), .int 0])), ((x 26), .inr (7, [.ref (x 13), .ref (x 14), .ref (x 15), .int 0, .int 0, .int 10, .int 150, .int 2, .int 0, .int 0])), (y0, .inr (11, mFs r mv0))]) [0, 27, 42] (by decide) rfl
  refine lv_aload_n hx hb dL_law_717 rfl (lv_at hl 2 rfl) ?_
  refine lv_aload_n hx hb dL_law_718 rfl (lv_at hl 3 rfl) ?_
  refine lv_iload_n hx hb dL_law_719 rfl (lv_at hl 0 rfl) ?_
  refine lv_iconst (v := 1) hx hb dL_law_720 (by decide) ?_
  refine lv_iadd hx hb dL_law_721 ?_
  refine tI (y := 1) (by decide) ?_
  refine va_sld hx hb hX hbl hbA hS (vp_in_nI (n := 1) (by decide) (by decide)) dL_law_722 ?_
  refine tI (y := xs 1) (congrArg xs (nI_clamp (n := 1) (by decide))) ?_
  refine caVi (n := 1) (wr := [(y0, .inr (11, mFs r mv0))]) (rest := []) hx hb hml hown hts hE hP hD hS hA (cnX10_out_1 l dC dI cy x0 (x 26) (x 0) (x 2) (x 21) (x 20) (x 25) (x 29) (x 31) (x 35) (x 13) (x 14) (x 15) (xs 1)) k_951 k_952 k_953 k_101 k_954 (by decide +kernel) ⟨Nat.le_of_ble_eq_true rfl, Nat.le_of_ble_eq_true rfl⟩ [0, 1] [2] rfl rfl rfl (by decide) (by decide) (by decide) 0 10 rfl rfl rfl hl.1 rfl (Nat.le_of_ble_eq_true rfl) dL_law_723 ⟨Nat.le_of_ble_eq_true rfl, Nat.le_of_ble_eq_true rfl⟩ (fun rr u H locs hw hP hD hS => ?_)
  have hP : va_P (dC, dI) vwCl [(y0, .inr (11, mFs r mv0))] H := hP
  have hD : va_D (fun q : Nat => s.heap.size ≤ q) [(y0, .inr (11, mFs r mv0))] := hD
  refine tI (y := (F_out (xs 1))) hw ?_
  refine lv_aload_n hx hb dL_law_726 rfl (lv_at hl 1 rfl) ?_
  refine lv_aload_n hx hb dL_law_727 rfl (lv_at hl 3 rfl) ?_
  refine lv_iload_n hx hb dL_law_728 rfl (lv_at hl 0 rfl) ?_
  refine lv_iconst (v := 1) hx hb dL_law_729 (by decide) ?_
  refine lv_iadd hx hb dL_law_730 ?_
  refine tI (y := 1) (by decide) ?_
  refine va_sld hx hb hX hbl hbA hS (vp_in_nI (n := 1) (by decide) (by decide)) dL_law_731 ?_
  refine tI (y := xs 1) (congrArg xs (nI_clamp (n := 1) (by decide))) ?_
  refine caVi (n := 1) (wr := []) (rest := [.int (F_out (xs 1))]) hx hb hml hown hts hE hP hD hS hA (cnX11_out_1 l dC dI cy y0 r (xs 1)) k_1857 k_1858 k_1859 k_114 k_1860 (by decide +kernel) ⟨Nat.le_of_ble_eq_true rfl, Nat.le_of_ble_eq_true rfl⟩ [0] [] rfl rfl rfl (by decide) (by decide) (by decide) 0 11 rfl rfl rfl hl.1 rfl (Nat.le_of_ble_eq_true rfl) dL_law_732 ⟨Nat.le_of_ble_eq_true rfl, Nat.le_of_ble_eq_true rfl⟩ (fun rr u H locs hw hP hD hS => ?_)
  have hP : va_P (dC, dI) vwCl [] H := hP
  have hD : va_D (fun q : Nat => s.heap.size ≤ q) [] := hD
  refine tI (y := (F_out (xs 1))) hw ?_
  refine lv_icmp_eq (tgt := 1413) hx hb dL_law_735 (by decide) (fun _ => ?_) (fun c0 => absurd rfl c0)
  exact fin _ _ _ hS hl
set_option maxHeartbeats 4000000 in
set_option maxRecDepth 100000 in
theorem law_18 {p : Program} {l : Launch} {e : Env} {s : State} {m : MethodId} {below : List Frame} {meth : Method} {c : Code} {dC : Nat → ClassId} {dI : Nat → Nat → Nat} {cy : Nat → ClassId} {b : Nat} {xs : Nat → Int32} {Q : State → Prop} (hx : p.tables.exec = Jvm.exec) (hb : c.code = code) (hml : c.maxLocals = 4) (hown : s.vm.findClass RL = some m.cls) (hts : ∀ w ∈ BIG, w.before #[Value.ref b] s = true) (hE : ENV (dC, dI) cy s) (hX : va_X b 6 xs s s.heap) (hbl : b < s.heap.size) {x0 y0 : Nat} {x r : Nat → Nat} {H : Heap} {locs : List Loc} {ls : Array Slot} (hP : va_P (dC, dI) vwCl (LW cy x0 y0 x r) H) (hD : va_D (fun q : Nat => s.heap.size ≤ q) (LW cy x0 y0 x r)) (hS : va_S (fun q : Nat => s.heap.size ≤ q) s.heap H locs) (hl : lv_has ls 4 [(3, .int 0), (2, .ref y0), (1, .ref x0), (0, .ref b)]) (fin : ∀ (H : Heap) (locs : List Loc) (ls : Array Slot), va_S (fun q : Nat => s.heap.size ≤ q) s.heap H locs → lv_has ls 4 [(3, .int 0), (2, .ref y0), (1, .ref x0), (0, .ref b)] → W p l e room_1 s m #[Value.ref b] below meth c H locs 81 11738 Q (F0 m 1413 ls [])) : W p l e room_1 s m #[Value.ref b] below meth c H locs 81 11738 Q (F0 m 740 ls []) := by
  have hA : ∀ q : Nat, s.heap.size ≤ q → (fun q : Nat => s.heap.size ≤ q) q := fun _ h => h
  have hbA : ¬ (fun q : Nat => s.heap.size ≤ q) b := Nat.not_le.mpr hbl
  have hP := hP.sub (ws' := [(x0, .inr (10, [.ref (x 0), .ref (x 2), .ref (x 26), .ref (x 21), .ref (x 20), .ref (x 25), .ref (x 29), .ref (x 31), .ref (x 35), .int 0])), ((x 21), .inr (1, [.ref (x 26), .ref (x 22)])), ((x 26), .inr (7, [.ref (x 13), .ref (x 14), .ref (x 15), .int 0, .int 0, .int 10, .int 150, .int 2, .int 0, .int 0])), (y0, .inr (11, mFs r mv0)), ((r 59), .inl (cy 1, 39, .inl zF)), ((r 60), .inl (cy 1, 39, .inl zF))]) [0, 22, 27, 42, 66, 67] rfl
  have hD := hD.sub (ws' := [(x0, .inr (10, [.ref (x 0), .ref (x 2), .ref (x 26), .ref (x 21), .ref (x 20), .ref (x 25), .ref (x 29), .ref (x 31), .ref (x 35), .int 0])), ((x 21), .inr (1, [.ref (x 26), .ref (x 22)])), ((x 26), .inr (7, [.ref (x 13), .ref (x 14), .ref (x 15), .int 0, .int 0, .int 10, .int 150, .int 2, .int 0, .int 0])), (y0, .inr (11, mFs r mv0)), ((r 59), .inl (cy 1, 39, .inl zF)), ((r 60), .inl (cy 1, 39, .inl zF))]) [0, 22, 27, 42, 66, 67] (by decide) rfl
  refine lv_aload_n hx hb dL_law_740 rfl (lv_at hl 2 rfl) ?_
  refine caVi (n := 0) (wr := [(y0, .inr (11, mFs r mv0)), ((r 59), .inl (cy 1, 39, .inl zF)), ((r 60), .inl (cy 1, 39, .inl zF))]) (rest := []) hx hb hml hown hts hE hP hD hS hA (cnX10_fitted_1 l dC dI cy x0 (x 21) (x 26) (x 0) (x 2) (x 20) (x 25) (x 29) (x 31) (x 35) (x 22) (x 13) (x 14) (x 15)) k_959 k_960 k_961 k_101 k_962 (by decide +kernel) ⟨Nat.le_of_ble_eq_true rfl, Nat.le_of_ble_eq_true rfl⟩ [0, 1, 2] [3, 4, 5] rfl rfl rfl (by decide) (by decide) (by decide) 0 10 rfl rfl rfl hl.1 rfl (Nat.le_of_ble_eq_true rfl) dL_law_741 ⟨Nat.le_of_ble_eq_true rfl, Nat.le_of_ble_eq_true rfl⟩ (fun rr u H locs hw hP hD hS => ?_)
  have hP : va_P (dC, dI) vwCl [(y0, .inr (11, mFs r mv0)), ((r 59), .inl (cy 1, 39, .inl zF)), ((r 60), .inl (cy 1, 39, .inl zF))] H := hP
  have hD : va_D (fun q : Nat => s.heap.size ≤ q) [(y0, .inr (11, mFs r mv0)), ((r 59), .inl (cy 1, 39, .inl zF)), ((r 60), .inl (cy 1, 39, .inl zF))] := hD
  refine tI (y := (F_fitted)) hw ?_
  refine lv_aload_n hx hb dL_law_744 rfl (lv_at hl 1 rfl) ?_
  refine caVi (n := 0) (wr := []) (rest := [.int (F_fitted)]) hx hb hml hown hts hE hP hD hS hA (cnX11_fitted_1 l dC dI cy y0 r) k_1865 k_1866 k_1867 k_114 k_1868 (by decide +kernel) ⟨Nat.le_of_ble_eq_true rfl, Nat.le_of_ble_eq_true rfl⟩ [0, 1, 2] [] rfl rfl rfl (by decide) (by decide) (by decide) 0 11 rfl rfl rfl hl.1 rfl (Nat.le_of_ble_eq_true rfl) dL_law_745 ⟨Nat.le_of_ble_eq_true rfl, Nat.le_of_ble_eq_true rfl⟩ (fun rr u H locs hw hP hD hS => ?_)
  have hP : va_P (dC, dI) vwCl [] H := hP
  have hD : va_D (fun q : Nat => s.heap.size ≤ q) [] := hD
  refine tI (y := (F_fitted)) hw ?_
  refine lv_icmp_eq (tgt := 1413) hx hb dL_law_748 (by decide) (fun _ => ?_) (fun c0 => absurd rfl c0)
  exact fin _ _ _ hS hl
set_option maxHeartbeats 4000000 in
set_option maxRecDepth 100000 in
theorem law_19 {p : Program} {l : Launch} {e : Env} {s : State} {m : MethodId} {below : List Frame} {meth : Method} {c : Code} {dC : Nat → ClassId} {dI : Nat → Nat → Nat} {cy : Nat → ClassId} {b : Nat} {xs : Nat → Int32} {Q : State → Prop} (hx : p.tables.exec = Jvm.exec) (hb : c.code = code) (hml : c.maxLocals = 4) (hown : s.vm.findClass RL = some m.cls) (hts : ∀ w ∈ BIG, w.before #[Value.ref b] s = true) (hE : ENV (dC, dI) cy s) (hX : va_X b 6 xs s s.heap) (hbl : b < s.heap.size) {x0 y0 : Nat} {x r : Nat → Nat} {H : Heap} {locs : List Loc} {ls : Array Slot} (hP : va_P (dC, dI) vwCl (LW cy x0 y0 x r) H) (hD : va_D (fun q : Nat => s.heap.size ≤ q) (LW cy x0 y0 x r)) (hS : va_S (fun q : Nat => s.heap.size ≤ q) s.heap H locs) (hl : lv_has ls 4 [(3, .int 0), (2, .ref y0), (1, .ref x0), (0, .ref b)]) (fin : ∀ (H : Heap) (locs : List Loc) (ls : Array Slot), va_S (fun q : Nat => s.heap.size ≤ q) s.heap H locs → lv_has ls 4 [(3, .int 0), (2, .ref y0), (1, .ref x0), (0, .ref b)] → W p l e room_1 s m #[Value.ref b] below meth c H locs 81 11738 Q (F0 m 1413 ls [])) : W p l e room_1 s m #[Value.ref b] below meth c H locs 81 11738 Q (F0 m 753 ls []) := by
  have hA : ∀ q : Nat, s.heap.size ≤ q → (fun q : Nat => s.heap.size ≤ q) q := fun _ h => h
  have hbA : ¬ (fun q : Nat => s.heap.size ≤ q) b := Nat.not_le.mpr hbl
  have hP := hP.sub (ws' := [(x0, .inr (10, [.ref (x 0), .ref (x 2), .ref (x 26), .ref (x 21), .ref (x 20), .ref (x 25), .ref (x 29), .ref (x 31), .ref (x 35), .int 0])), ((x 31), .inr (0, [.ref (x 26), .ref (x 21), .ref (x 32), .int 0, .ref (x 33), .ref (x 34), .int 0, .int 0])), ((x 26), .inr (7, [.ref (x 13), .ref (x 14), .ref (x 15), .int 0, .int 0, .int 10, .int 150, .int 2, .int 0, .int 0])), ((x 33), .inl (cy 1, 448, .inl zF)), (y0, .inr (11, mFs r mv0)), ((r 59), .inl (cy 1, 39, .inl zF)), ((r 60), .inl (cy 1, 39, .inl zF))]) [0, 32, 27, 34, 42, 66, 67] rfl
  have hD := hD.sub (ws' := [(x0, .inr (10, [.ref (x 0), .ref (x 2), .ref (x 26), .ref (x 21), .ref (x 20), .ref (x 25), .ref (x 29), .ref (x 31), .ref (x 35), .int 0])), ((x 31), .inr (0, [.ref (x 26), .ref (x 21), .ref (x 32), .int 0, .ref (x 33), .ref (x 34), .int 0, .int 0])), ((x 26), .inr (7, [.ref (x 13), .ref (x 14), .ref (x 15), .int 0, .int 0, .int 10, .int 150, .int 2, .int 0, .int 0])), ((x 33), .inl (cy 1, 448, .inl zF)), (y0, .inr (11, mFs r mv0)), ((r 59), .inl (cy 1, 39, .inl zF)), ((r 60), .inl (cy 1, 39, .inl zF))]) [0, 32, 27, 34, 42, 66, 67] (by decide) rfl
  refine lv_aload_n hx hb dL_law_753 rfl (lv_at hl 2 rfl) ?_
  refine lv_aload_n hx hb dL_law_754 rfl (lv_at hl 3 rfl) ?_
  refine lv_iload_n hx hb dL_law_755 rfl (lv_at hl 0 rfl) ?_
  refine lv_iconst (v := 1) hx hb dL_law_756 (by decide) ?_
  refine lv_iadd hx hb dL_law_757 ?_
  refine tI (y := 1) (by decide) ?_
  refine va_sld hx hb hX hbl hbA hS (vp_in_nI (n := 1) (by decide) (by decide)) dL_law_758 ?_
  refine tI (y := xs 1) (congrArg xs (nI_clamp (n := 1) (by decide))) ?_
  refine caVi (n := 1) (wr := [(y0, .inr (11, mFs r mv0)), ((r 59), .inl (cy 1, 39, .inl zF)), ((r 60), .inl (cy 1, 39, .inl zF))]) (rest := []) hx hb hml hown hts hE hP hD hS hA (cnX10_dress_1 l dC dI cy x0 (x 31) (x 26) (x 33) (x 0) (x 2) (x 21) (x 20) (x 25) (x 29) (x 35) (x 32) (x 34) (x 13) (x 14) (x 15) (xs 1)) k_967 k_968 k_969 k_101 k_970 (by decide +kernel) ⟨Nat.le_of_ble_eq_true rfl, Nat.le_of_ble_eq_true rfl⟩ [0, 1, 2, 3] [4, 5, 6] rfl rfl rfl (by decide) (by decide) (by decide) 0 10 rfl rfl rfl hl.1 rfl (Nat.le_of_ble_eq_true rfl) dL_law_759 ⟨Nat.le_of_ble_eq_true rfl, Nat.le_of_ble_eq_true rfl⟩ (fun rr u H locs hw hP hD hS => ?_)
  have hP : va_P (dC, dI) vwCl [(y0, .inr (11, mFs r mv0)), ((r 59), .inl (cy 1, 39, .inl zF)), ((r 60), .inl (cy 1, 39, .inl zF))] H := hP
  have hD : va_D (fun q : Nat => s.heap.size ≤ q) [(y0, .inr (11, mFs r mv0)), ((r 59), .inl (cy 1, 39, .inl zF)), ((r 60), .inl (cy 1, 39, .inl zF))] := hD
  refine tI (y := (F_dress (xs 1))) hw ?_
  refine lv_aload_n hx hb dL_law_762 rfl (lv_at hl 1 rfl) ?_
  refine lv_aload_n hx hb dL_law_763 rfl (lv_at hl 3 rfl) ?_
  refine lv_iload_n hx hb dL_law_764 rfl (lv_at hl 0 rfl) ?_
  refine lv_iconst (v := 1) hx hb dL_law_765 (by decide) ?_
  refine lv_iadd hx hb dL_law_766 ?_
  refine tI (y := 1) (by decide) ?_
  refine va_sld hx hb hX hbl hbA hS (vp_in_nI (n := 1) (by decide) (by decide)) dL_law_767 ?_
  refine tI (y := xs 1) (congrArg xs (nI_clamp (n := 1) (by decide))) ?_
  refine caVi (n := 1) (wr := []) (rest := [.int (F_dress (xs 1))]) hx hb hml hown hts hE hP hD hS hA (cnX11_dress_1 l dC dI cy y0 r (xs 1)) k_1869 k_1870 k_1871 k_114 k_1872 (by decide +kernel) ⟨Nat.le_of_ble_eq_true rfl, Nat.le_of_ble_eq_true rfl⟩ [0, 1, 2] [] rfl rfl rfl (by decide) (by decide) (by decide) 0 11 rfl rfl rfl hl.1 rfl (Nat.le_of_ble_eq_true rfl) dL_law_768 ⟨Nat.le_of_ble_eq_true rfl, Nat.le_of_ble_eq_true rfl⟩ (fun rr u H locs hw hP hD hS => ?_)
  have hP : va_P (dC, dI) vwCl [] H := hP
  have hD : va_D (fun q : Nat => s.heap.size ≤ q) [] := hD
  refine tI (y := (F_dress (xs 1))) hw ?_
  refine lv_icmp_eq (tgt := 1413) hx hb dL_law_771 (by decide) (fun _ => ?_) (fun c0 => absurd rfl c0)
  exact fin _ _ _ hS hl
set_option maxHeartbeats 4000000 in
set_option maxRecDepth 100000 in
theorem law_20 {p : Program} {l : Launch} {e : Env} {s : State} {m : MethodId} {below : List Frame} {meth : Method} {c : Code} {dC : Nat → ClassId} {dI : Nat → Nat → Nat} {cy : Nat → ClassId} {b : Nat} {xs : Nat → Int32} {Q : State → Prop} (hx : p.tables.exec = Jvm.exec) (hb : c.code = code) (hml : c.maxLocals = 4) (hown : s.vm.findClass RL = some m.cls) (hts : ∀ w ∈ BIG, w.before #[Value.ref b] s = true) (hE : ENV (dC, dI) cy s) (hX : va_X b 6 xs s s.heap) (hbl : b < s.heap.size) {x0 y0 : Nat} {x r : Nat → Nat} {H : Heap} {locs : List Loc} {ls : Array Slot} (hP : va_P (dC, dI) vwCl (LW cy x0 y0 x r) H) (hD : va_D (fun q : Nat => s.heap.size ≤ q) (LW cy x0 y0 x r)) (hS : va_S (fun q : Nat => s.heap.size ≤ q) s.heap H locs) (hl : lv_has ls 4 [(3, .int 0), (2, .ref y0), (1, .ref x0), (0, .ref b)]) (fin : ∀ (H : Heap) (locs : List Loc) (ls : Array Slot), va_S (fun q : Nat => s.heap.size ≤ q) s.heap H locs → lv_has ls 4 [(3, .int 0), (2, .ref y0), (1, .ref x0), (0, .ref b)] → W p l e room_1 s m #[Value.ref b] below meth c H locs 81 11738 Q (F0 m 1413 ls [])) : W p l e room_1 s m #[Value.ref b] below meth c H locs 81 11738 Q (F0 m 776 ls []) := by
  have hA : ∀ q : Nat, s.heap.size ≤ q → (fun q : Nat => s.heap.size ≤ q) q := fun _ h => h
  have hbA : ¬ (fun q : Nat => s.heap.size ≤ q) b := Nat.not_le.mpr hbl
  have hP := hP.sub (ws' := [(x0, .inr (10, [.ref (x 0), .ref (x 2), .ref (x 26), .ref (x 21), .ref (x 20), .ref (x 25), .ref (x 29), .ref (x 31), .ref (x 35), .int 0])), ((x 26), .inr (7, [.ref (x 13), .ref (x 14), .ref (x 15), .int 0, .int 0, .int 10, .int 150, .int 2, .int 0, .int 0])), (y0, .inr (11, mFs r mv0))]) [0, 27, 42] rfl
  have hD := hD.sub (ws' := [(x0, .inr (10, [.ref (x 0), .ref (x 2), .ref (x 26), .ref (x 21), .ref (x 20), .ref (x 25), .ref (x 29), .ref (x 31), .ref (x 35), .int 0])), ((x 26), .inr (7, [.ref (x 13), .ref (x 14), .ref (x 15), .int 0, .int 0, .int 10, .int 150, .int 2, .int 0, .int 0])), (y0, .inr (11, mFs r mv0))]) [0, 27, 42] (by decide) rfl
  refine lv_aload_n hx hb dL_law_776 rfl (lv_at hl 2 rfl) ?_
  refine lv_aload_n hx hb dL_law_777 rfl (lv_at hl 3 rfl) ?_
  refine lv_iload_n hx hb dL_law_778 rfl (lv_at hl 0 rfl) ?_
  refine lv_iconst (v := 1) hx hb dL_law_779 (by decide) ?_
  refine lv_iadd hx hb dL_law_780 ?_
  refine tI (y := 1) (by decide) ?_
  refine va_sld hx hb hX hbl hbA hS (vp_in_nI (n := 1) (by decide) (by decide)) dL_law_781 ?_
  refine tI (y := xs 1) (congrArg xs (nI_clamp (n := 1) (by decide))) ?_
  refine lv_aload_n hx hb dL_law_782 rfl (lv_at hl 3 rfl) ?_
  refine lv_iload_n hx hb dL_law_783 rfl (lv_at hl 0 rfl) ?_
  refine lv_iconst (v := 2) hx hb dL_law_784 (by decide) ?_
  refine lv_iadd hx hb dL_law_785 ?_
  refine tI (y := 2) (by decide) ?_
  refine va_sld hx hb hX hbl hbA hS (vp_in_nI (n := 2) (by decide) (by decide)) dL_law_786 ?_
  refine tI (y := xs 2) (congrArg xs (nI_clamp (n := 2) (by decide))) ?_
  refine lv_aload_n hx hb dL_law_787 rfl (lv_at hl 3 rfl) ?_
  refine lv_iload_n hx hb dL_law_788 rfl (lv_at hl 0 rfl) ?_
  refine lv_iconst (v := 3) hx hb dL_law_789 (by decide) ?_
  refine lv_iadd hx hb dL_law_790 ?_
  refine tI (y := 3) (by decide) ?_
  refine va_sld hx hb hX hbl hbA hS (vp_in_nI (n := 3) (by decide) (by decide)) dL_law_791 ?_
  refine tI (y := xs 3) (congrArg xs (nI_clamp (n := 3) (by decide))) ?_
  refine caVi (n := 3) (wr := [(y0, .inr (11, mFs r mv0))]) (rest := []) hx hb hml hown hts hE hP hD hS hA (cnX10_sewing_1 l dC dI cy x0 (x 26) (x 0) (x 2) (x 21) (x 20) (x 25) (x 29) (x 31) (x 35) (x 13) (x 14) (x 15) (xs 1) (xs 2) (xs 3)) k_999 k_1000 k_1001 k_101 k_1002 (by decide +kernel) ⟨Nat.le_of_ble_eq_true rfl, Nat.le_of_ble_eq_true rfl⟩ [0, 1] [2] rfl rfl rfl (by decide) (by decide) (by decide) 0 10 rfl rfl rfl hl.1 rfl (Nat.le_of_ble_eq_true rfl) dL_law_792 ⟨Nat.le_of_ble_eq_true rfl, Nat.le_of_ble_eq_true rfl⟩ (fun rr u H locs hw hP hD hS => ?_)
  have hP : va_P (dC, dI) vwCl [(y0, .inr (11, mFs r mv0))] H := hP
  have hD : va_D (fun q : Nat => s.heap.size ≤ q) [(y0, .inr (11, mFs r mv0))] := hD
  refine tI (y := (F_sewing (xs 1) (xs 2) (xs 3))) hw ?_
  refine lv_aload_n hx hb dL_law_795 rfl (lv_at hl 1 rfl) ?_
  refine lv_aload_n hx hb dL_law_796 rfl (lv_at hl 3 rfl) ?_
  refine lv_iload_n hx hb dL_law_797 rfl (lv_at hl 0 rfl) ?_
  refine lv_iconst (v := 1) hx hb dL_law_798 (by decide) ?_
  refine lv_iadd hx hb dL_law_799 ?_
  refine tI (y := 1) (by decide) ?_
  refine va_sld hx hb hX hbl hbA hS (vp_in_nI (n := 1) (by decide) (by decide)) dL_law_800 ?_
  refine tI (y := xs 1) (congrArg xs (nI_clamp (n := 1) (by decide))) ?_
  refine lv_aload_n hx hb dL_law_801 rfl (lv_at hl 3 rfl) ?_
  refine lv_iload_n hx hb dL_law_802 rfl (lv_at hl 0 rfl) ?_
  refine lv_iconst (v := 2) hx hb dL_law_803 (by decide) ?_
  refine lv_iadd hx hb dL_law_804 ?_
  refine tI (y := 2) (by decide) ?_
  refine va_sld hx hb hX hbl hbA hS (vp_in_nI (n := 2) (by decide) (by decide)) dL_law_805 ?_
  refine tI (y := xs 2) (congrArg xs (nI_clamp (n := 2) (by decide))) ?_
  refine lv_aload_n hx hb dL_law_806 rfl (lv_at hl 3 rfl) ?_
  refine lv_iload_n hx hb dL_law_807 rfl (lv_at hl 0 rfl) ?_
  refine lv_iconst (v := 3) hx hb dL_law_808 (by decide) ?_
  refine lv_iadd hx hb dL_law_809 ?_
  refine tI (y := 3) (by decide) ?_
  refine va_sld hx hb hX hbl hbA hS (vp_in_nI (n := 3) (by decide) (by decide)) dL_law_810 ?_
  refine tI (y := xs 3) (congrArg xs (nI_clamp (n := 3) (by decide))) ?_
  refine caVi (n := 3) (wr := []) (rest := [.int (F_sewing (xs 1) (xs 2) (xs 3))]) hx hb hml hown hts hE hP hD hS hA (cnX11_sewing_1 l dC dI cy y0 r (xs 1) (xs 2) (xs 3)) k_1888 k_1889 k_1890 k_114 k_1891 (by decide +kernel) ⟨Nat.le_of_ble_eq_true rfl, Nat.le_of_ble_eq_true rfl⟩ [0] [] rfl rfl rfl (by decide) (by decide) (by decide) 0 11 rfl rfl rfl hl.1 rfl (Nat.le_of_ble_eq_true rfl) dL_law_811 ⟨Nat.le_of_ble_eq_true rfl, Nat.le_of_ble_eq_true rfl⟩ (fun rr u H locs hw hP hD hS => ?_)
  have hP : va_P (dC, dI) vwCl [] H := hP
  have hD : va_D (fun q : Nat => s.heap.size ≤ q) [] := hD
  refine tI (y := (F_sewing (xs 1) (xs 2) (xs 3))) hw ?_
  refine lv_icmp_eq (tgt := 1413) hx hb dL_law_814 (by decide) (fun _ => ?_) (fun c0 => absurd rfl c0)
  exact fin _ _ _ hS hl
set_option maxHeartbeats 4000000 in
set_option maxRecDepth 100000 in
theorem law_21 {p : Program} {l : Launch} {e : Env} {s : State} {m : MethodId} {below : List Frame} {meth : Method} {c : Code} {dC : Nat → ClassId} {dI : Nat → Nat → Nat} {cy : Nat → ClassId} {b : Nat} {xs : Nat → Int32} {Q : State → Prop} (hx : p.tables.exec = Jvm.exec) (hb : c.code = code) (hml : c.maxLocals = 4) (hown : s.vm.findClass RL = some m.cls) (hts : ∀ w ∈ BIG, w.before #[Value.ref b] s = true) (hE : ENV (dC, dI) cy s) (hX : va_X b 6 xs s s.heap) (hbl : b < s.heap.size) {x0 y0 : Nat} {x r : Nat → Nat} {H : Heap} {locs : List Loc} {ls : Array Slot} (hP : va_P (dC, dI) vwCl (LW cy x0 y0 x r) H) (hD : va_D (fun q : Nat => s.heap.size ≤ q) (LW cy x0 y0 x r)) (hS : va_S (fun q : Nat => s.heap.size ≤ q) s.heap H locs) (hl : lv_has ls 4 [(3, .int 0), (2, .ref y0), (1, .ref x0), (0, .ref b)]) (fin : ∀ (H : Heap) (locs : List Loc) (ls : Array Slot), va_S (fun q : Nat => s.heap.size ≤ q) s.heap H locs → lv_has ls 4 [(3, .int 0), (2, .ref y0), (1, .ref x0), (0, .ref b)] → W p l e room_1 s m #[Value.ref b] below meth c H locs 81 11738 Q (F0 m 1413 ls [])) : W p l e room_1 s m #[Value.ref b] below meth c H locs 81 11738 Q (F0 m 819 ls []) := by
  have hA : ∀ q : Nat, s.heap.size ≤ q → (fun q : Nat => s.heap.size ≤ q) q := fun _ h => h
  have hbA : ¬ (fun q : Nat => s.heap.size ≤ q) b := Nat.not_le.mpr hbl
  have hP := hP.sub (ws' := [(x0, .inr (10, [.ref (x 0), .ref (x 2), .ref (x 26), .ref (x 21), .ref (x 20), .ref (x 25), .ref (x 29), .ref (x 31), .ref (x 35), .int 0])), ((x 26), .inr (7, [.ref (x 13), .ref (x 14), .ref (x 15), .int 0, .int 0, .int 10, .int 150, .int 2, .int 0, .int 0])), (y0, .inr (11, mFs r mv0))]) [0, 27, 42] rfl
  have hD := hD.sub (ws' := [(x0, .inr (10, [.ref (x 0), .ref (x 2), .ref (x 26), .ref (x 21), .ref (x 20), .ref (x 25), .ref (x 29), .ref (x 31), .ref (x 35), .int 0])), ((x 26), .inr (7, [.ref (x 13), .ref (x 14), .ref (x 15), .int 0, .int 0, .int 10, .int 150, .int 2, .int 0, .int 0])), (y0, .inr (11, mFs r mv0))]) [0, 27, 42] (by decide) rfl
  refine lv_aload_n hx hb dL_law_819 rfl (lv_at hl 2 rfl) ?_
  refine lv_aload_n hx hb dL_law_820 rfl (lv_at hl 3 rfl) ?_
  refine lv_iload_n hx hb dL_law_821 rfl (lv_at hl 0 rfl) ?_
  refine lv_iconst (v := 1) hx hb dL_law_822 (by decide) ?_
  refine lv_iadd hx hb dL_law_823 ?_
  refine tI (y := 1) (by decide) ?_
  refine va_sld hx hb hX hbl hbA hS (vp_in_nI (n := 1) (by decide) (by decide)) dL_law_824 ?_
  refine tI (y := xs 1) (congrArg xs (nI_clamp (n := 1) (by decide))) ?_
  refine caVi (n := 1) (wr := [(y0, .inr (11, mFs r mv0))]) (rest := []) hx hb hml hown hts hE hP hD hS hA (cnX10_rota_1 l dC dI cy x0 (x 26) (x 0) (x 2) (x 21) (x 20) (x 25) (x 29) (x 31) (x 35) (x 13) (x 14) (x 15) (xs 1)) k_1020 k_1021 k_1022 k_101 k_1023 (by decide +kernel) ⟨Nat.le_of_ble_eq_true rfl, Nat.le_of_ble_eq_true rfl⟩ [0, 1] [2] rfl rfl rfl (by decide) (by decide) (by decide) 0 10 rfl rfl rfl hl.1 rfl (Nat.le_of_ble_eq_true rfl) dL_law_825 ⟨Nat.le_of_ble_eq_true rfl, Nat.le_of_ble_eq_true rfl⟩ (fun rr u H locs hw hP hD hS => ?_)
  have hP : va_P (dC, dI) vwCl [(y0, .inr (11, mFs r mv0))] H := hP
  have hD : va_D (fun q : Nat => s.heap.size ≤ q) [(y0, .inr (11, mFs r mv0))] := hD
  refine tI (y := (F_rota (xs 1))) hw ?_
  refine lv_aload_n hx hb dL_law_828 rfl (lv_at hl 1 rfl) ?_
  refine lv_aload_n hx hb dL_law_829 rfl (lv_at hl 3 rfl) ?_
  refine lv_iload_n hx hb dL_law_830 rfl (lv_at hl 0 rfl) ?_
  refine lv_iconst (v := 1) hx hb dL_law_831 (by decide) ?_
  refine lv_iadd hx hb dL_law_832 ?_
  refine tI (y := 1) (by decide) ?_
  refine va_sld hx hb hX hbl hbA hS (vp_in_nI (n := 1) (by decide) (by decide)) dL_law_833 ?_
  refine tI (y := xs 1) (congrArg xs (nI_clamp (n := 1) (by decide))) ?_
  refine caVi (n := 1) (wr := []) (rest := [.int (F_rota (xs 1))]) hx hb hml hown hts hE hP hD hS hA (cnX11_rota_1 l dC dI cy y0 r (xs 1)) k_1896 k_1897 k_1898 k_114 k_1899 (by decide +kernel) ⟨Nat.le_of_ble_eq_true rfl, Nat.le_of_ble_eq_true rfl⟩ [0] [] rfl rfl rfl (by decide) (by decide) (by decide) 0 11 rfl rfl rfl hl.1 rfl (Nat.le_of_ble_eq_true rfl) dL_law_834 ⟨Nat.le_of_ble_eq_true rfl, Nat.le_of_ble_eq_true rfl⟩ (fun rr u H locs hw hP hD hS => ?_)
  have hP : va_P (dC, dI) vwCl [] H := hP
  have hD : va_D (fun q : Nat => s.heap.size ≤ q) [] := hD
  refine tI (y := (F_rota (xs 1))) hw ?_
  refine lv_icmp_eq (tgt := 1413) hx hb dL_law_837 (by decide) (fun _ => ?_) (fun c0 => absurd rfl c0)
  exact fin _ _ _ hS hl
set_option maxHeartbeats 4000000 in
set_option maxRecDepth 100000 in
theorem law_22 {p : Program} {l : Launch} {e : Env} {s : State} {m : MethodId} {below : List Frame} {meth : Method} {c : Code} {dC : Nat → ClassId} {dI : Nat → Nat → Nat} {cy : Nat → ClassId} {b : Nat} {xs : Nat → Int32} {Q : State → Prop} (hx : p.tables.exec = Jvm.exec) (hb : c.code = code) (hml : c.maxLocals = 4) (hown : s.vm.findClass RL = some m.cls) (hts : ∀ w ∈ BIG, w.before #[Value.ref b] s = true) (hE : ENV (dC, dI) cy s) (hX : va_X b 6 xs s s.heap) (hbl : b < s.heap.size) {x0 y0 : Nat} {x r : Nat → Nat} {H : Heap} {locs : List Loc} {ls : Array Slot} (hP : va_P (dC, dI) vwCl (LW cy x0 y0 x r) H) (hD : va_D (fun q : Nat => s.heap.size ≤ q) (LW cy x0 y0 x r)) (hS : va_S (fun q : Nat => s.heap.size ≤ q) s.heap H locs) (hl : lv_has ls 4 [(3, .int 0), (2, .ref y0), (1, .ref x0), (0, .ref b)]) (fin : ∀ (H : Heap) (locs : List Loc) (ls : Array Slot), va_S (fun q : Nat => s.heap.size ≤ q) s.heap H locs → lv_has ls 4 [(3, .int 0), (2, .ref y0), (1, .ref x0), (0, .ref b)] → W p l e room_1 s m #[Value.ref b] below meth c H locs 81 11738 Q (F0 m 1413 ls [])) : W p l e room_1 s m #[Value.ref b] below meth c H locs 81 11738 Q (F0 m 842 ls []) := by
  have hA : ∀ q : Nat, s.heap.size ≤ q → (fun q : Nat => s.heap.size ≤ q) q := fun _ h => h
  have hbA : ¬ (fun q : Nat => s.heap.size ≤ q) b := Nat.not_le.mpr hbl
  have hP := hP.sub (ws' := [(x0, .inr (10, [.ref (x 0), .ref (x 2), .ref (x 26), .ref (x 21), .ref (x 20), .ref (x 25), .ref (x 29), .ref (x 31), .ref (x 35), .int 0])), ((x 25), .inr (3, [.ref (x 26), .ref (x 21), .ref (x 27), .int 0, .int 0, .int 0, .int 0, .int 0, .int 0, .int 0])), ((x 21), .inr (1, [.ref (x 26), .ref (x 22)])), ((x 26), .inr (7, [.ref (x 13), .ref (x 14), .ref (x 15), .int 0, .int 0, .int 10, .int 150, .int 2, .int 0, .int 0])), (y0, .inr (11, mFs r mv0)), ((r 59), .inl (cy 1, 39, .inl zF)), ((r 60), .inl (cy 1, 39, .inl zF))]) [0, 26, 22, 27, 42, 66, 67] rfl
  have hD := hD.sub (ws' := [(x0, .inr (10, [.ref (x 0), .ref (x 2), .ref (x 26), .ref (x 21), .ref (x 20), .ref (x 25), .ref (x 29), .ref (x 31), .ref (x 35), .int 0])), ((x 25), .inr (3, [.ref (x 26), .ref (x 21), .ref (x 27), .int 0, .int 0, .int 0, .int 0, .int 0, .int 0, .int 0])), ((x 21), .inr (1, [.ref (x 26), .ref (x 22)])), ((x 26), .inr (7, [.ref (x 13), .ref (x 14), .ref (x 15), .int 0, .int 0, .int 10, .int 150, .int 2, .int 0, .int 0])), (y0, .inr (11, mFs r mv0)), ((r 59), .inl (cy 1, 39, .inl zF)), ((r 60), .inl (cy 1, 39, .inl zF))]) [0, 26, 22, 27, 42, 66, 67] (by decide) rfl
  refine lv_aload_n hx hb dL_law_842 rfl (lv_at hl 2 rfl) ?_
  refine lv_aload_n hx hb dL_law_843 rfl (lv_at hl 3 rfl) ?_
  refine lv_iload_n hx hb dL_law_844 rfl (lv_at hl 0 rfl) ?_
  refine lv_iconst (v := 1) hx hb dL_law_845 (by decide) ?_
  refine lv_iadd hx hb dL_law_846 ?_
  refine tI (y := 1) (by decide) ?_
  refine va_sld hx hb hX hbl hbA hS (vp_in_nI (n := 1) (by decide) (by decide)) dL_law_847 ?_
  refine tI (y := xs 1) (congrArg xs (nI_clamp (n := 1) (by decide))) ?_
  refine caVi (n := 1) (wr := [(y0, .inr (11, mFs r mv0)), ((r 59), .inl (cy 1, 39, .inl zF)), ((r 60), .inl (cy 1, 39, .inl zF))]) (rest := []) hx hb hml hown hts hE hP hD hS hA (cnX10_change_1 l dC dI cy x0 (x 25) (x 21) (x 26) (x 0) (x 2) (x 20) (x 29) (x 31) (x 35) (x 27) (x 22) (x 13) (x 14) (x 15) (xs 1)) k_1033 k_1034 k_1035 k_101 k_1036 (by decide +kernel) ⟨Nat.le_of_ble_eq_true rfl, Nat.le_of_ble_eq_true rfl⟩ [0, 1, 2, 3] [4, 5, 6] rfl rfl rfl (by decide) (by decide) (by decide) 0 10 rfl rfl rfl hl.1 rfl (Nat.le_of_ble_eq_true rfl) dL_law_848 ⟨Nat.le_of_ble_eq_true rfl, Nat.le_of_ble_eq_true rfl⟩ (fun rr u H locs hw hP hD hS => ?_)
  have hP : va_P (dC, dI) vwCl [(y0, .inr (11, mFs r mv0)), ((r 59), .inl (cy 1, 39, .inl zF)), ((r 60), .inl (cy 1, 39, .inl zF))] H := hP
  have hD : va_D (fun q : Nat => s.heap.size ≤ q) [(y0, .inr (11, mFs r mv0)), ((r 59), .inl (cy 1, 39, .inl zF)), ((r 60), .inl (cy 1, 39, .inl zF))] := hD
  refine tI (y := (F_change (xs 1))) hw ?_
  refine lv_aload_n hx hb dL_law_851 rfl (lv_at hl 1 rfl) ?_
  refine lv_aload_n hx hb dL_law_852 rfl (lv_at hl 3 rfl) ?_
  refine lv_iload_n hx hb dL_law_853 rfl (lv_at hl 0 rfl) ?_
  refine lv_iconst (v := 1) hx hb dL_law_854 (by decide) ?_
  refine lv_iadd hx hb dL_law_855 ?_
  refine tI (y := 1) (by decide) ?_
  refine va_sld hx hb hX hbl hbA hS (vp_in_nI (n := 1) (by decide) (by decide)) dL_law_856 ?_
  refine tI (y := xs 1) (congrArg xs (nI_clamp (n := 1) (by decide))) ?_
  refine caVi (n := 1) (wr := []) (rest := [.int (F_change (xs 1))]) hx hb hml hown hts hE hP hD hS hA (cnX11_change_1 l dC dI cy y0 r (xs 1)) k_1903 k_1904 k_1905 k_114 k_1906 (by decide +kernel) ⟨Nat.le_of_ble_eq_true rfl, Nat.le_of_ble_eq_true rfl⟩ [0, 1, 2] [] rfl rfl rfl (by decide) (by decide) (by decide) 0 11 rfl rfl rfl hl.1 rfl (Nat.le_of_ble_eq_true rfl) dL_law_857 ⟨Nat.le_of_ble_eq_true rfl, Nat.le_of_ble_eq_true rfl⟩ (fun rr u H locs hw hP hD hS => ?_)
  have hP : va_P (dC, dI) vwCl [] H := hP
  have hD : va_D (fun q : Nat => s.heap.size ≤ q) [] := hD
  refine tI (y := (F_change (xs 1))) hw ?_
  refine lv_icmp_eq (tgt := 1413) hx hb dL_law_860 (by decide) (fun _ => ?_) (fun c0 => absurd rfl c0)
  exact fin _ _ _ hS hl
set_option maxHeartbeats 4000000 in
set_option maxRecDepth 100000 in
theorem law_23 {p : Program} {l : Launch} {e : Env} {s : State} {m : MethodId} {below : List Frame} {meth : Method} {c : Code} {dC : Nat → ClassId} {dI : Nat → Nat → Nat} {cy : Nat → ClassId} {b : Nat} {xs : Nat → Int32} {Q : State → Prop} (hx : p.tables.exec = Jvm.exec) (hb : c.code = code) (hml : c.maxLocals = 4) (hown : s.vm.findClass RL = some m.cls) (hts : ∀ w ∈ BIG, w.before #[Value.ref b] s = true) (hE : ENV (dC, dI) cy s) (hX : va_X b 6 xs s s.heap) (hbl : b < s.heap.size) {x0 y0 : Nat} {x r : Nat → Nat} {H : Heap} {locs : List Loc} {ls : Array Slot} (hP : va_P (dC, dI) vwCl (LW cy x0 y0 x r) H) (hD : va_D (fun q : Nat => s.heap.size ≤ q) (LW cy x0 y0 x r)) (hS : va_S (fun q : Nat => s.heap.size ≤ q) s.heap H locs) (hl : lv_has ls 4 [(3, .int 0), (2, .ref y0), (1, .ref x0), (0, .ref b)]) (fin : ∀ (H : Heap) (locs : List Loc) (ls : Array Slot), va_S (fun q : Nat => s.heap.size ≤ q) s.heap H locs → lv_has ls 4 [(3, .int 0), (2, .ref y0), (1, .ref x0), (0, .ref b)] → W p l e room_1 s m #[Value.ref b] below meth c H locs 81 11738 Q (F0 m 1413 ls [])) : W p l e room_1 s m #[Value.ref b] below meth c H locs 81 11738 Q (F0 m 865 ls []) := by
  have hA : ∀ q : Nat, s.heap.size ≤ q → (fun q : Nat => s.heap.size ≤ q) q := fun _ h => h
  have hbA : ¬ (fun q : Nat => s.heap.size ≤ q) b := Nat.not_le.mpr hbl
  have hP := hP.sub (ws' := [(x0, .inr (10, [.ref (x 0), .ref (x 2), .ref (x 26), .ref (x 21), .ref (x 20), .ref (x 25), .ref (x 29), .ref (x 31), .ref (x 35), .int 0])), ((x 29), .inr (2, [.ref (x 26), .ref (x 21), .ref (x 30)])), ((x 21), .inr (1, [.ref (x 26), .ref (x 22)])), ((x 26), .inr (7, [.ref (x 13), .ref (x 14), .ref (x 15), .int 0, .int 0, .int 10, .int 150, .int 2, .int 0, .int 0])), (y0, .inr (11, mFs r mv0)), ((r 59), .inl (cy 1, 39, .inl zF)), ((r 60), .inl (cy 1, 39, .inl zF))]) [0, 30, 22, 27, 42, 66, 67] rfl
  have hD := hD.sub (ws' := [(x0, .inr (10, [.ref (x 0), .ref (x 2), .ref (x 26), .ref (x 21), .ref (x 20), .ref (x 25), .ref (x 29), .ref (x 31), .ref (x 35), .int 0])), ((x 29), .inr (2, [.ref (x 26), .ref (x 21), .ref (x 30)])), ((x 21), .inr (1, [.ref (x 26), .ref (x 22)])), ((x 26), .inr (7, [.ref (x 13), .ref (x 14), .ref (x 15), .int 0, .int 0, .int 10, .int 150, .int 2, .int 0, .int 0])), (y0, .inr (11, mFs r mv0)), ((r 59), .inl (cy 1, 39, .inl zF)), ((r 60), .inl (cy 1, 39, .inl zF))]) [0, 30, 22, 27, 42, 66, 67] (by decide) rfl
  refine lv_aload_n hx hb dL_law_865 rfl (lv_at hl 2 rfl) ?_
  refine lv_aload_n hx hb dL_law_866 rfl (lv_at hl 3 rfl) ?_
  refine lv_iload_n hx hb dL_law_867 rfl (lv_at hl 0 rfl) ?_
  refine lv_iconst (v := 1) hx hb dL_law_868 (by decide) ?_
  refine lv_iadd hx hb dL_law_869 ?_
  refine tI (y := 1) (by decide) ?_
  refine va_sld hx hb hX hbl hbA hS (vp_in_nI (n := 1) (by decide) (by decide)) dL_law_870 ?_
  refine tI (y := xs 1) (congrArg xs (nI_clamp (n := 1) (by decide))) ?_
  refine lv_aload_n hx hb dL_law_871 rfl (lv_at hl 3 rfl) ?_
  refine lv_iload_n hx hb dL_law_872 rfl (lv_at hl 0 rfl) ?_
  refine lv_iconst (v := 2) hx hb dL_law_873 (by decide) ?_
  refine lv_iadd hx hb dL_law_874 ?_
  refine tI (y := 2) (by decide) ?_
  refine va_sld hx hb hX hbl hbA hS (vp_in_nI (n := 2) (by decide) (by decide)) dL_law_875 ?_
  refine tI (y := xs 2) (congrArg xs (nI_clamp (n := 2) (by decide))) ?_
  refine caVi (n := 2) (wr := [(y0, .inr (11, mFs r mv0)), ((r 59), .inl (cy 1, 39, .inl zF)), ((r 60), .inl (cy 1, 39, .inl zF))]) (rest := []) hx hb hml hown hts hE hP hD hS hA (cnX10_front_1 l dC dI cy x0 (x 29) (x 21) (x 26) (x 0) (x 2) (x 20) (x 25) (x 31) (x 35) (x 30) (x 22) (x 13) (x 14) (x 15) (xs 1) (xs 2)) k_1052 k_1053 k_1054 k_101 k_1055 (by decide +kernel) ⟨Nat.le_of_ble_eq_true rfl, Nat.le_of_ble_eq_true rfl⟩ [0, 1, 2, 3] [4, 5, 6] rfl rfl rfl (by decide) (by decide) (by decide) 0 10 rfl rfl rfl hl.1 rfl (Nat.le_of_ble_eq_true rfl) dL_law_876 ⟨Nat.le_of_ble_eq_true rfl, Nat.le_of_ble_eq_true rfl⟩ (fun rr u H locs hw hP hD hS => ?_)
  have hP : va_P (dC, dI) vwCl [(y0, .inr (11, mFs r mv0)), ((r 59), .inl (cy 1, 39, .inl zF)), ((r 60), .inl (cy 1, 39, .inl zF))] H := hP
  have hD : va_D (fun q : Nat => s.heap.size ≤ q) [(y0, .inr (11, mFs r mv0)), ((r 59), .inl (cy 1, 39, .inl zF)), ((r 60), .inl (cy 1, 39, .inl zF))] := hD
  refine tI (y := (F_front (xs 1) (xs 2))) hw ?_
  refine lv_aload_n hx hb dL_law_879 rfl (lv_at hl 1 rfl) ?_
  refine lv_aload_n hx hb dL_law_880 rfl (lv_at hl 3 rfl) ?_
  refine lv_iload_n hx hb dL_law_881 rfl (lv_at hl 0 rfl) ?_
  refine lv_iconst (v := 1) hx hb dL_law_882 (by decide) ?_
  refine lv_iadd hx hb dL_law_883 ?_
  refine tI (y := 1) (by decide) ?_
  refine va_sld hx hb hX hbl hbA hS (vp_in_nI (n := 1) (by decide) (by decide)) dL_law_884 ?_
  refine tI (y := xs 1) (congrArg xs (nI_clamp (n := 1) (by decide))) ?_
  refine lv_aload_n hx hb dL_law_885 rfl (lv_at hl 3 rfl) ?_
  refine lv_iload_n hx hb dL_law_886 rfl (lv_at hl 0 rfl) ?_
  refine lv_iconst (v := 2) hx hb dL_law_887 (by decide) ?_
  refine lv_iadd hx hb dL_law_888 ?_
  refine tI (y := 2) (by decide) ?_
  refine va_sld hx hb hX hbl hbA hS (vp_in_nI (n := 2) (by decide) (by decide)) dL_law_889 ?_
  refine tI (y := xs 2) (congrArg xs (nI_clamp (n := 2) (by decide))) ?_
  refine caVi (n := 2) (wr := []) (rest := [.int (F_front (xs 1) (xs 2))]) hx hb hml hown hts hE hP hD hS hA (cnX11_front_1 l dC dI cy y0 r (xs 1) (xs 2)) k_1908 k_1909 k_1910 k_114 k_1911 (by decide +kernel) ⟨Nat.le_of_ble_eq_true rfl, Nat.le_of_ble_eq_true rfl⟩ [0, 1, 2] [] rfl rfl rfl (by decide) (by decide) (by decide) 0 11 rfl rfl rfl hl.1 rfl (Nat.le_of_ble_eq_true rfl) dL_law_890 ⟨Nat.le_of_ble_eq_true rfl, Nat.le_of_ble_eq_true rfl⟩ (fun rr u H locs hw hP hD hS => ?_)
  have hP : va_P (dC, dI) vwCl [] H := hP
  have hD : va_D (fun q : Nat => s.heap.size ≤ q) [] := hD
  refine tI (y := (F_front (xs 1) (xs 2))) hw ?_
  refine lv_icmp_eq (tgt := 1413) hx hb dL_law_893 (by decide) (fun _ => ?_) (fun c0 => absurd rfl c0)
  exact fin _ _ _ hS hl
set_option maxHeartbeats 4000000 in
set_option maxRecDepth 100000 in
theorem law_24 {p : Program} {l : Launch} {e : Env} {s : State} {m : MethodId} {below : List Frame} {meth : Method} {c : Code} {dC : Nat → ClassId} {dI : Nat → Nat → Nat} {cy : Nat → ClassId} {b : Nat} {xs : Nat → Int32} {Q : State → Prop} (hx : p.tables.exec = Jvm.exec) (hb : c.code = code) (hml : c.maxLocals = 4) (hown : s.vm.findClass RL = some m.cls) (hts : ∀ w ∈ BIG, w.before #[Value.ref b] s = true) (hE : ENV (dC, dI) cy s) (hX : va_X b 6 xs s s.heap) (hbl : b < s.heap.size) {x0 y0 : Nat} {x r : Nat → Nat} {H : Heap} {locs : List Loc} {ls : Array Slot} (hP : va_P (dC, dI) vwCl (LW cy x0 y0 x r) H) (hD : va_D (fun q : Nat => s.heap.size ≤ q) (LW cy x0 y0 x r)) (hS : va_S (fun q : Nat => s.heap.size ≤ q) s.heap H locs) (hl : lv_has ls 4 [(3, .int 0), (2, .ref y0), (1, .ref x0), (0, .ref b)]) (fin : ∀ (H : Heap) (locs : List Loc) (ls : Array Slot), va_S (fun q : Nat => s.heap.size ≤ q) s.heap H locs → lv_has ls 4 [(3, .int 0), (2, .ref y0), (1, .ref x0), (0, .ref b)] → W p l e room_1 s m #[Value.ref b] below meth c H locs 81 11738 Q (F0 m 1413 ls [])) : W p l e room_1 s m #[Value.ref b] below meth c H locs 81 11738 Q (F0 m 898 ls []) := by
  have hA : ∀ q : Nat, s.heap.size ≤ q → (fun q : Nat => s.heap.size ≤ q) q := fun _ h => h
  have hbA : ¬ (fun q : Nat => s.heap.size ≤ q) b := Nat.not_le.mpr hbl
  have hP := hP.sub (ws' := [(x0, .inr (10, [.ref (x 0), .ref (x 2), .ref (x 26), .ref (x 21), .ref (x 20), .ref (x 25), .ref (x 29), .ref (x 31), .ref (x 35), .int 0])), ((x 29), .inr (2, [.ref (x 26), .ref (x 21), .ref (x 30)])), ((x 21), .inr (1, [.ref (x 26), .ref (x 22)])), ((x 26), .inr (7, [.ref (x 13), .ref (x 14), .ref (x 15), .int 0, .int 0, .int 10, .int 150, .int 2, .int 0, .int 0])), (y0, .inr (11, mFs r mv0)), ((r 59), .inl (cy 1, 39, .inl zF)), ((r 60), .inl (cy 1, 39, .inl zF))]) [0, 30, 22, 27, 42, 66, 67] rfl
  have hD := hD.sub (ws' := [(x0, .inr (10, [.ref (x 0), .ref (x 2), .ref (x 26), .ref (x 21), .ref (x 20), .ref (x 25), .ref (x 29), .ref (x 31), .ref (x 35), .int 0])), ((x 29), .inr (2, [.ref (x 26), .ref (x 21), .ref (x 30)])), ((x 21), .inr (1, [.ref (x 26), .ref (x 22)])), ((x 26), .inr (7, [.ref (x 13), .ref (x 14), .ref (x 15), .int 0, .int 0, .int 10, .int 150, .int 2, .int 0, .int 0])), (y0, .inr (11, mFs r mv0)), ((r 59), .inl (cy 1, 39, .inl zF)), ((r 60), .inl (cy 1, 39, .inl zF))]) [0, 30, 22, 27, 42, 66, 67] (by decide) rfl
  refine lv_aload_n hx hb dL_law_898 rfl (lv_at hl 2 rfl) ?_
  refine lv_aload_n hx hb dL_law_899 rfl (lv_at hl 3 rfl) ?_
  refine lv_iload_n hx hb dL_law_900 rfl (lv_at hl 0 rfl) ?_
  refine lv_iconst (v := 1) hx hb dL_law_901 (by decide) ?_
  refine lv_iadd hx hb dL_law_902 ?_
  refine tI (y := 1) (by decide) ?_
  refine va_sld hx hb hX hbl hbA hS (vp_in_nI (n := 1) (by decide) (by decide)) dL_law_903 ?_
  refine tI (y := xs 1) (congrArg xs (nI_clamp (n := 1) (by decide))) ?_
  refine caVi (n := 1) (wr := [(y0, .inr (11, mFs r mv0)), ((r 59), .inl (cy 1, 39, .inl zF)), ((r 60), .inl (cy 1, 39, .inl zF))]) (rest := []) hx hb hml hown hts hE hP hD hS hA (cnX10_wings_1 l dC dI cy x0 (x 29) (x 21) (x 26) (x 0) (x 2) (x 20) (x 25) (x 31) (x 35) (x 30) (x 22) (x 13) (x 14) (x 15) (xs 1)) k_1072 k_1073 k_1074 k_101 k_1075 (by decide +kernel) ⟨Nat.le_of_ble_eq_true rfl, Nat.le_of_ble_eq_true rfl⟩ [0, 1, 2, 3] [4, 5, 6] rfl rfl rfl (by decide) (by decide) (by decide) 0 10 rfl rfl rfl hl.1 rfl (Nat.le_of_ble_eq_true rfl) dL_law_904 ⟨Nat.le_of_ble_eq_true rfl, Nat.le_of_ble_eq_true rfl⟩ (fun rr u H locs hw hP hD hS => ?_)
  have hP : va_P (dC, dI) vwCl [(y0, .inr (11, mFs r mv0)), ((r 59), .inl (cy 1, 39, .inl zF)), ((r 60), .inl (cy 1, 39, .inl zF))] H := hP
  have hD : va_D (fun q : Nat => s.heap.size ≤ q) [(y0, .inr (11, mFs r mv0)), ((r 59), .inl (cy 1, 39, .inl zF)), ((r 60), .inl (cy 1, 39, .inl zF))] := hD
  refine tI (y := (F_wings (xs 1))) hw ?_
  refine lv_aload_n hx hb dL_law_907 rfl (lv_at hl 1 rfl) ?_
  refine lv_aload_n hx hb dL_law_908 rfl (lv_at hl 3 rfl) ?_
  refine lv_iload_n hx hb dL_law_909 rfl (lv_at hl 0 rfl) ?_
  refine lv_iconst (v := 1) hx hb dL_law_910 (by decide) ?_
  refine lv_iadd hx hb dL_law_911 ?_
  refine tI (y := 1) (by decide) ?_
  refine va_sld hx hb hX hbl hbA hS (vp_in_nI (n := 1) (by decide) (by decide)) dL_law_912 ?_
  refine tI (y := xs 1) (congrArg xs (nI_clamp (n := 1) (by decide))) ?_
  refine caVi (n := 1) (wr := []) (rest := [.int (F_wings (xs 1))]) hx hb hml hown hts hE hP hD hS hA (cnX11_wings_1 l dC dI cy y0 r (xs 1)) k_1916 k_1917 k_1918 k_114 k_1919 (by decide +kernel) ⟨Nat.le_of_ble_eq_true rfl, Nat.le_of_ble_eq_true rfl⟩ [0, 1, 2] [] rfl rfl rfl (by decide) (by decide) (by decide) 0 11 rfl rfl rfl hl.1 rfl (Nat.le_of_ble_eq_true rfl) dL_law_913 ⟨Nat.le_of_ble_eq_true rfl, Nat.le_of_ble_eq_true rfl⟩ (fun rr u H locs hw hP hD hS => ?_)
  have hP : va_P (dC, dI) vwCl [] H := hP
  have hD : va_D (fun q : Nat => s.heap.size ≤ q) [] := hD
  refine tI (y := (F_wings (xs 1))) hw ?_
  refine lv_icmp_eq (tgt := 1413) hx hb dL_law_916 (by decide) (fun _ => ?_) (fun c0 => absurd rfl c0)
  exact fin _ _ _ hS hl
set_option maxHeartbeats 4000000 in
set_option maxRecDepth 100000 in
theorem law_25 {p : Program} {l : Launch} {e : Env} {s : State} {m : MethodId} {below : List Frame} {meth : Method} {c : Code} {dC : Nat → ClassId} {dI : Nat → Nat → Nat} {cy : Nat → ClassId} {b : Nat} {xs : Nat → Int32} {Q : State → Prop} (hx : p.tables.exec = Jvm.exec) (hb : c.code = code) (hml : c.maxLocals = 4) (hown : s.vm.findClass RL = some m.cls) (hts : ∀ w ∈ BIG, w.before #[Value.ref b] s = true) (hE : ENV (dC, dI) cy s) (hX : va_X b 6 xs s s.heap) (hbl : b < s.heap.size) {x0 y0 : Nat} {x r : Nat → Nat} {H : Heap} {locs : List Loc} {ls : Array Slot} (hP : va_P (dC, dI) vwCl (LW cy x0 y0 x r) H) (hD : va_D (fun q : Nat => s.heap.size ≤ q) (LW cy x0 y0 x r)) (hS : va_S (fun q : Nat => s.heap.size ≤ q) s.heap H locs) (hl : lv_has ls 4 [(3, .int 0), (2, .ref y0), (1, .ref x0), (0, .ref b)]) (fin : ∀ (H : Heap) (locs : List Loc) (ls : Array Slot), va_S (fun q : Nat => s.heap.size ≤ q) s.heap H locs → lv_has ls 4 [(3, .int 0), (2, .ref y0), (1, .ref x0), (0, .ref b)] → W p l e room_1 s m #[Value.ref b] below meth c H locs 81 11738 Q (F0 m 1413 ls [])) : W p l e room_1 s m #[Value.ref b] below meth c H locs 81 11738 Q (F0 m 921 ls []) := by
  have hA : ∀ q : Nat, s.heap.size ≤ q → (fun q : Nat => s.heap.size ≤ q) q := fun _ h => h
  have hbA : ¬ (fun q : Nat => s.heap.size ≤ q) b := Nat.not_le.mpr hbl
  have hP := hP.sub (ws' := [(x0, .inr (10, [.ref (x 0), .ref (x 2), .ref (x 26), .ref (x 21), .ref (x 20), .ref (x 25), .ref (x 29), .ref (x 31), .ref (x 35), .int 0])), ((x 29), .inr (2, [.ref (x 26), .ref (x 21), .ref (x 30)])), ((x 26), .inr (7, [.ref (x 13), .ref (x 14), .ref (x 15), .int 0, .int 0, .int 10, .int 150, .int 2, .int 0, .int 0])), ((x 30), .inl (cy 1, 64, .inl zF)), (y0, .inr (11, mFs r mv0)), ((r 68), .inl (cy 1, 64, .inl zF))]) [0, 30, 27, 31, 42, 72] rfl
  have hD := hD.sub (ws' := [(x0, .inr (10, [.ref (x 0), .ref (x 2), .ref (x 26), .ref (x 21), .ref (x 20), .ref (x 25), .ref (x 29), .ref (x 31), .ref (x 35), .int 0])), ((x 29), .inr (2, [.ref (x 26), .ref (x 21), .ref (x 30)])), ((x 26), .inr (7, [.ref (x 13), .ref (x 14), .ref (x 15), .int 0, .int 0, .int 10, .int 150, .int 2, .int 0, .int 0])), ((x 30), .inl (cy 1, 64, .inl zF)), (y0, .inr (11, mFs r mv0)), ((r 68), .inl (cy 1, 64, .inl zF))]) [0, 30, 27, 31, 42, 72] (by decide) rfl
  refine lv_aload_n hx hb dL_law_921 rfl (lv_at hl 2 rfl) ?_
  refine caVi (n := 0) (wr := [(y0, .inr (11, mFs r mv0)), ((r 68), .inl (cy 1, 64, .inl zF))]) (rest := []) hx hb hml hown hts hE hP hD hS hA (cnX10_cloth_1 l dC dI cy x0 (x 29) (x 26) (x 30) (x 0) (x 2) (x 21) (x 20) (x 25) (x 31) (x 35) (x 13) (x 14) (x 15)) k_1093 k_1094 k_1095 k_101 k_1096 (by decide +kernel) ⟨Nat.le_of_ble_eq_true rfl, Nat.le_of_ble_eq_true rfl⟩ [0, 1, 2, 3] [4, 5] rfl rfl rfl (by decide) (by decide) (by decide) 0 10 rfl rfl rfl hl.1 rfl (Nat.le_of_ble_eq_true rfl) dL_law_922 ⟨Nat.le_of_ble_eq_true rfl, Nat.le_of_ble_eq_true rfl⟩ (fun rr u H locs hw hP hD hS => ?_)
  have hP : va_P (dC, dI) vwCl [(y0, .inr (11, mFs r mv0)), ((r 68), .inl (cy 1, 64, .inl zF))] H := hP
  have hD : va_D (fun q : Nat => s.heap.size ≤ q) [(y0, .inr (11, mFs r mv0)), ((r 68), .inl (cy 1, 64, .inl zF))] := hD
  refine tI (y := (F_cloth)) hw ?_
  refine lv_aload_n hx hb dL_law_925 rfl (lv_at hl 1 rfl) ?_
  refine caVi (n := 0) (wr := []) (rest := [.int (F_cloth)]) hx hb hml hown hts hE hP hD hS hA (cnX11_cloth_1 l dC dI cy y0 r) k_1923 k_1924 k_1925 k_114 k_1926 (by decide +kernel) ⟨Nat.le_of_ble_eq_true rfl, Nat.le_of_ble_eq_true rfl⟩ [0, 1] [] rfl rfl rfl (by decide) (by decide) (by decide) 0 11 rfl rfl rfl hl.1 rfl (Nat.le_of_ble_eq_true rfl) dL_law_926 ⟨Nat.le_of_ble_eq_true rfl, Nat.le_of_ble_eq_true rfl⟩ (fun rr u H locs hw hP hD hS => ?_)
  have hP : va_P (dC, dI) vwCl [] H := hP
  have hD : va_D (fun q : Nat => s.heap.size ≤ q) [] := hD
  refine tI (y := (F_cloth)) hw ?_
  refine lv_icmp_eq (tgt := 1413) hx hb dL_law_929 (by decide) (fun _ => ?_) (fun c0 => absurd rfl c0)
  exact fin _ _ _ hS hl
set_option maxHeartbeats 4000000 in
set_option maxRecDepth 100000 in
theorem law_26 {p : Program} {l : Launch} {e : Env} {s : State} {m : MethodId} {below : List Frame} {meth : Method} {c : Code} {dC : Nat → ClassId} {dI : Nat → Nat → Nat} {cy : Nat → ClassId} {b : Nat} {xs : Nat → Int32} {Q : State → Prop} (hx : p.tables.exec = Jvm.exec) (hb : c.code = code) (hml : c.maxLocals = 4) (hown : s.vm.findClass RL = some m.cls) (hts : ∀ w ∈ BIG, w.before #[Value.ref b] s = true) (hE : ENV (dC, dI) cy s) (hX : va_X b 6 xs s s.heap) (hbl : b < s.heap.size) {x0 y0 : Nat} {x r : Nat → Nat} {H : Heap} {locs : List Loc} {ls : Array Slot} (hP : va_P (dC, dI) vwCl (LW cy x0 y0 x r) H) (hD : va_D (fun q : Nat => s.heap.size ≤ q) (LW cy x0 y0 x r)) (hS : va_S (fun q : Nat => s.heap.size ≤ q) s.heap H locs) (hl : lv_has ls 4 [(3, .int 0), (2, .ref y0), (1, .ref x0), (0, .ref b)]) (fin : ∀ (H : Heap) (locs : List Loc) (ls : Array Slot), va_S (fun q : Nat => s.heap.size ≤ q) s.heap H locs → lv_has ls 4 [(3, .int 0), (2, .ref y0), (1, .ref x0), (0, .ref b)] → W p l e room_1 s m #[Value.ref b] below meth c H locs 81 11738 Q (F0 m 1413 ls [])) : W p l e room_1 s m #[Value.ref b] below meth c H locs 81 11738 Q (F0 m 934 ls []) := by
  have hA : ∀ q : Nat, s.heap.size ≤ q → (fun q : Nat => s.heap.size ≤ q) q := fun _ h => h
  have hbA : ¬ (fun q : Nat => s.heap.size ≤ q) b := Nat.not_le.mpr hbl
  have hP := hP.sub (ws' := [(x0, .inr (10, [.ref (x 0), .ref (x 2), .ref (x 26), .ref (x 21), .ref (x 20), .ref (x 25), .ref (x 29), .ref (x 31), .ref (x 35), .int 0])), ((x 31), .inr (0, [.ref (x 26), .ref (x 21), .ref (x 32), .int 0, .ref (x 33), .ref (x 34), .int 0, .int 0])), ((x 26), .inr (7, [.ref (x 13), .ref (x 14), .ref (x 15), .int 0, .int 0, .int 10, .int 150, .int 2, .int 0, .int 0])), (y0, .inr (11, mFs r mv0))]) [0, 32, 27, 42] rfl
  have hD := hD.sub (ws' := [(x0, .inr (10, [.ref (x 0), .ref (x 2), .ref (x 26), .ref (x 21), .ref (x 20), .ref (x 25), .ref (x 29), .ref (x 31), .ref (x 35), .int 0])), ((x 31), .inr (0, [.ref (x 26), .ref (x 21), .ref (x 32), .int 0, .ref (x 33), .ref (x 34), .int 0, .int 0])), ((x 26), .inr (7, [.ref (x 13), .ref (x 14), .ref (x 15), .int 0, .int 0, .int 10, .int 150, .int 2, .int 0, .int 0])), (y0, .inr (11, mFs r mv0))]) [0, 32, 27, 42] (by decide) rfl
  refine lv_aload_n hx hb dL_law_934 rfl (lv_at hl 2 rfl) ?_
  refine caVi (n := 0) (wr := [(y0, .inr (11, mFs r mv0))]) (rest := []) hx hb hml hown hts hE hP hD hS hA (cnX10_buttons_1 l dC dI cy x0 (x 31) (x 26) (x 0) (x 2) (x 21) (x 20) (x 25) (x 29) (x 35) (x 32) (x 33) (x 34) (x 13) (x 14) (x 15)) k_1111 k_1112 k_1113 k_101 k_1114 (by decide +kernel) ⟨Nat.le_of_ble_eq_true rfl, Nat.le_of_ble_eq_true rfl⟩ [0, 1, 2] [3] rfl rfl rfl (by decide) (by decide) (by decide) 0 10 rfl rfl rfl hl.1 rfl (Nat.le_of_ble_eq_true rfl) dL_law_935 ⟨Nat.le_of_ble_eq_true rfl, Nat.le_of_ble_eq_true rfl⟩ (fun rr u H locs hw hP hD hS => ?_)
  have hP : va_P (dC, dI) vwCl [(y0, .inr (11, mFs r mv0))] H := hP
  have hD : va_D (fun q : Nat => s.heap.size ≤ q) [(y0, .inr (11, mFs r mv0))] := hD
  refine tI (y := (F_buttons)) hw ?_
  refine lv_aload_n hx hb dL_law_938 rfl (lv_at hl 1 rfl) ?_
  refine caVi (n := 0) (wr := []) (rest := [.int (F_buttons)]) hx hb hml hown hts hE hP hD hS hA (cnX11_buttons_1 l dC dI cy y0 r) k_1932 k_1933 k_1934 k_114 k_1935 (by decide +kernel) ⟨Nat.le_of_ble_eq_true rfl, Nat.le_of_ble_eq_true rfl⟩ [0] [] rfl rfl rfl (by decide) (by decide) (by decide) 0 11 rfl rfl rfl hl.1 rfl (Nat.le_of_ble_eq_true rfl) dL_law_939 ⟨Nat.le_of_ble_eq_true rfl, Nat.le_of_ble_eq_true rfl⟩ (fun rr u H locs hw hP hD hS => ?_)
  have hP : va_P (dC, dI) vwCl [] H := hP
  have hD : va_D (fun q : Nat => s.heap.size ≤ q) [] := hD
  refine tI (y := (F_buttons)) hw ?_
  refine lv_icmp_eq (tgt := 1413) hx hb dL_law_942 (by decide) (fun _ => ?_) (fun c0 => absurd rfl c0)
  exact fin _ _ _ hS hl
set_option maxHeartbeats 4000000 in
set_option maxRecDepth 100000 in
theorem law_27 {p : Program} {l : Launch} {e : Env} {s : State} {m : MethodId} {below : List Frame} {meth : Method} {c : Code} {dC : Nat → ClassId} {dI : Nat → Nat → Nat} {cy : Nat → ClassId} {b : Nat} {xs : Nat → Int32} {Q : State → Prop} (hx : p.tables.exec = Jvm.exec) (hb : c.code = code) (hml : c.maxLocals = 4) (hown : s.vm.findClass RL = some m.cls) (hts : ∀ w ∈ BIG, w.before #[Value.ref b] s = true) (hE : ENV (dC, dI) cy s) (hX : va_X b 6 xs s s.heap) (hbl : b < s.heap.size) {x0 y0 : Nat} {x r : Nat → Nat} {H : Heap} {locs : List Loc} {ls : Array Slot} (hP : va_P (dC, dI) vwCl (LW cy x0 y0 x r) H) (hD : va_D (fun q : Nat => s.heap.size ≤ q) (LW cy x0 y0 x r)) (hS : va_S (fun q : Nat => s.heap.size ≤ q) s.heap H locs) (hl : lv_has ls 4 [(3, .int 0), (2, .ref y0), (1, .ref x0), (0, .ref b)]) (fin : ∀ (H : Heap) (locs : List Loc) (ls : Array Slot), va_S (fun q : Nat => s.heap.size ≤ q) s.heap H locs → lv_has ls 4 [(3, .int 0), (2, .ref y0), (1, .ref x0), (0, .ref b)] → W p l e room_1 s m #[Value.ref b] below meth c H locs 81 11738 Q (F0 m 1413 ls [])) : W p l e room_1 s m #[Value.ref b] below meth c H locs 81 11738 Q (F0 m 947 ls []) := by
  have hA : ∀ q : Nat, s.heap.size ≤ q → (fun q : Nat => s.heap.size ≤ q) q := fun _ h => h
  have hbA : ¬ (fun q : Nat => s.heap.size ≤ q) b := Nat.not_le.mpr hbl
  have hP := hP.sub (ws' := [(x0, .inr (10, [.ref (x 0), .ref (x 2), .ref (x 26), .ref (x 21), .ref (x 20), .ref (x 25), .ref (x 29), .ref (x 31), .ref (x 35), .int 0])), ((x 31), .inr (0, [.ref (x 26), .ref (x 21), .ref (x 32), .int 0, .ref (x 33), .ref (x 34), .int 0, .int 0])), ((x 26), .inr (7, [.ref (x 13), .ref (x 14), .ref (x 15), .int 0, .int 0, .int 10, .int 150, .int 2, .int 0, .int 0])), (y0, .inr (11, mFs r mv0)), ((r 59), .inl (cy 1, 39, .inl zF)), ((r 60), .inl (cy 1, 39, .inl zF))]) [0, 32, 27, 42, 66, 67] rfl
  have hD := hD.sub (ws' := [(x0, .inr (10, [.ref (x 0), .ref (x 2), .ref (x 26), .ref (x 21), .ref (x 20), .ref (x 25), .ref (x 29), .ref (x 31), .ref (x 35), .int 0])), ((x 31), .inr (0, [.ref (x 26), .ref (x 21), .ref (x 32), .int 0, .ref (x 33), .ref (x 34), .int 0, .int 0])), ((x 26), .inr (7, [.ref (x 13), .ref (x 14), .ref (x 15), .int 0, .int 0, .int 10, .int 150, .int 2, .int 0, .int 0])), (y0, .inr (11, mFs r mv0)), ((r 59), .inl (cy 1, 39, .inl zF)), ((r 60), .inl (cy 1, 39, .inl zF))]) [0, 32, 27, 42, 66, 67] (by decide) rfl
  refine lv_aload_n hx hb dL_law_947 rfl (lv_at hl 2 rfl) ?_
  refine lv_aload_n hx hb dL_law_948 rfl (lv_at hl 3 rfl) ?_
  refine lv_iload_n hx hb dL_law_949 rfl (lv_at hl 0 rfl) ?_
  refine lv_iconst (v := 1) hx hb dL_law_950 (by decide) ?_
  refine lv_iadd hx hb dL_law_951 ?_
  refine tI (y := 1) (by decide) ?_
  refine va_sld hx hb hX hbl hbA hS (vp_in_nI (n := 1) (by decide) (by decide)) dL_law_952 ?_
  refine tI (y := xs 1) (congrArg xs (nI_clamp (n := 1) (by decide))) ?_
  refine lv_aload_n hx hb dL_law_953 rfl (lv_at hl 3 rfl) ?_
  refine lv_iload_n hx hb dL_law_954 rfl (lv_at hl 0 rfl) ?_
  refine lv_iconst (v := 2) hx hb dL_law_955 (by decide) ?_
  refine lv_iadd hx hb dL_law_956 ?_
  refine tI (y := 2) (by decide) ?_
  refine va_sld hx hb hX hbl hbA hS (vp_in_nI (n := 2) (by decide) (by decide)) dL_law_957 ?_
  refine tI (y := xs 2) (congrArg xs (nI_clamp (n := 2) (by decide))) ?_
  refine caVi (n := 2) (wr := [(y0, .inr (11, mFs r mv0)), ((r 59), .inl (cy 1, 39, .inl zF)), ((r 60), .inl (cy 1, 39, .inl zF))]) (rest := []) hx hb hml hown hts hE hP hD hS hA (cnX10_reach_1 l dC dI cy x0 (x 31) (x 26) (x 0) (x 2) (x 21) (x 20) (x 25) (x 29) (x 35) (x 32) (x 33) (x 34) (x 13) (x 14) (x 15) (xs 1) (xs 2)) k_1129 k_1130 k_1131 k_101 k_1132 (by decide +kernel) ⟨Nat.le_of_ble_eq_true rfl, Nat.le_of_ble_eq_true rfl⟩ [0, 1, 2] [3, 4, 5] rfl rfl rfl (by decide) (by decide) (by decide) 0 10 rfl rfl rfl hl.1 rfl (Nat.le_of_ble_eq_true rfl) dL_law_958 ⟨Nat.le_of_ble_eq_true rfl, Nat.le_of_ble_eq_true rfl⟩ (fun rr u H locs hw hP hD hS => ?_)
  have hP : va_P (dC, dI) vwCl [(y0, .inr (11, mFs r mv0)), ((r 59), .inl (cy 1, 39, .inl zF)), ((r 60), .inl (cy 1, 39, .inl zF))] H := hP
  have hD : va_D (fun q : Nat => s.heap.size ≤ q) [(y0, .inr (11, mFs r mv0)), ((r 59), .inl (cy 1, 39, .inl zF)), ((r 60), .inl (cy 1, 39, .inl zF))] := hD
  refine tI (y := (F_reach (xs 1) (xs 2))) hw ?_
  refine lv_aload_n hx hb dL_law_961 rfl (lv_at hl 1 rfl) ?_
  refine lv_aload_n hx hb dL_law_962 rfl (lv_at hl 3 rfl) ?_
  refine lv_iload_n hx hb dL_law_963 rfl (lv_at hl 0 rfl) ?_
  refine lv_iconst (v := 1) hx hb dL_law_964 (by decide) ?_
  refine lv_iadd hx hb dL_law_965 ?_
  refine tI (y := 1) (by decide) ?_
  refine va_sld hx hb hX hbl hbA hS (vp_in_nI (n := 1) (by decide) (by decide)) dL_law_966 ?_
  refine tI (y := xs 1) (congrArg xs (nI_clamp (n := 1) (by decide))) ?_
  refine lv_aload_n hx hb dL_law_967 rfl (lv_at hl 3 rfl) ?_
  refine lv_iload_n hx hb dL_law_968 rfl (lv_at hl 0 rfl) ?_
  refine lv_iconst (v := 2) hx hb dL_law_969 (by decide) ?_
  refine lv_iadd hx hb dL_law_970 ?_
  refine tI (y := 2) (by decide) ?_
  refine va_sld hx hb hX hbl hbA hS (vp_in_nI (n := 2) (by decide) (by decide)) dL_law_971 ?_
  refine tI (y := xs 2) (congrArg xs (nI_clamp (n := 2) (by decide))) ?_
  refine caVi (n := 2) (wr := []) (rest := [.int (F_reach (xs 1) (xs 2))]) hx hb hml hown hts hE hP hD hS hA (cnX11_reach_1 l dC dI cy y0 r (xs 1) (xs 2)) k_1944 k_1945 k_1946 k_114 k_1947 (by decide +kernel) ⟨Nat.le_of_ble_eq_true rfl, Nat.le_of_ble_eq_true rfl⟩ [0, 1, 2] [] rfl rfl rfl (by decide) (by decide) (by decide) 0 11 rfl rfl rfl hl.1 rfl (Nat.le_of_ble_eq_true rfl) dL_law_972 ⟨Nat.le_of_ble_eq_true rfl, Nat.le_of_ble_eq_true rfl⟩ (fun rr u H locs hw hP hD hS => ?_)
  have hP : va_P (dC, dI) vwCl [] H := hP
  have hD : va_D (fun q : Nat => s.heap.size ≤ q) [] := hD
  refine tI (y := (F_reach (xs 1) (xs 2))) hw ?_
  refine lv_icmp_eq (tgt := 1413) hx hb dL_law_975 (by decide) (fun _ => ?_) (fun c0 => absurd rfl c0)
  exact fin _ _ _ hS hl
set_option maxHeartbeats 4000000 in
set_option maxRecDepth 100000 in
theorem law_28 {p : Program} {l : Launch} {e : Env} {s : State} {m : MethodId} {below : List Frame} {meth : Method} {c : Code} {dC : Nat → ClassId} {dI : Nat → Nat → Nat} {cy : Nat → ClassId} {b : Nat} {xs : Nat → Int32} {Q : State → Prop} (hx : p.tables.exec = Jvm.exec) (hb : c.code = code) (hml : c.maxLocals = 4) (hown : s.vm.findClass RL = some m.cls) (hts : ∀ w ∈ BIG, w.before #[Value.ref b] s = true) (hE : ENV (dC, dI) cy s) (hX : va_X b 6 xs s s.heap) (hbl : b < s.heap.size) {x0 y0 : Nat} {x r : Nat → Nat} {H : Heap} {locs : List Loc} {ls : Array Slot} (hP : va_P (dC, dI) vwCl (LW cy x0 y0 x r) H) (hD : va_D (fun q : Nat => s.heap.size ≤ q) (LW cy x0 y0 x r)) (hS : va_S (fun q : Nat => s.heap.size ≤ q) s.heap H locs) (hl : lv_has ls 4 [(3, .int 0), (2, .ref y0), (1, .ref x0), (0, .ref b)]) (fin : ∀ (H : Heap) (locs : List Loc) (ls : Array Slot), va_S (fun q : Nat => s.heap.size ≤ q) s.heap H locs → lv_has ls 4 [(3, .int 0), (2, .ref y0), (1, .ref x0), (0, .ref b)] → W p l e room_1 s m #[Value.ref b] below meth c H locs 81 11738 Q (F0 m 1413 ls [])) : W p l e room_1 s m #[Value.ref b] below meth c H locs 81 11738 Q (F0 m 980 ls []) := by
  have hA : ∀ q : Nat, s.heap.size ≤ q → (fun q : Nat => s.heap.size ≤ q) q := fun _ h => h
  have hbA : ¬ (fun q : Nat => s.heap.size ≤ q) b := Nat.not_le.mpr hbl
  have hP := hP.sub (ws' := [(x0, .inr (10, [.ref (x 0), .ref (x 2), .ref (x 26), .ref (x 21), .ref (x 20), .ref (x 25), .ref (x 29), .ref (x 31), .ref (x 35), .int 0])), ((x 25), .inr (3, [.ref (x 26), .ref (x 21), .ref (x 27), .int 0, .int 0, .int 0, .int 0, .int 0, .int 0, .int 0])), ((x 26), .inr (7, [.ref (x 13), .ref (x 14), .ref (x 15), .int 0, .int 0, .int 10, .int 150, .int 2, .int 0, .int 0])), (y0, .inr (11, mFs r mv0))]) [0, 26, 27, 42] rfl
  have hD := hD.sub (ws' := [(x0, .inr (10, [.ref (x 0), .ref (x 2), .ref (x 26), .ref (x 21), .ref (x 20), .ref (x 25), .ref (x 29), .ref (x 31), .ref (x 35), .int 0])), ((x 25), .inr (3, [.ref (x 26), .ref (x 21), .ref (x 27), .int 0, .int 0, .int 0, .int 0, .int 0, .int 0, .int 0])), ((x 26), .inr (7, [.ref (x 13), .ref (x 14), .ref (x 15), .int 0, .int 0, .int 10, .int 150, .int 2, .int 0, .int 0])), (y0, .inr (11, mFs r mv0))]) [0, 26, 27, 42] (by decide) rfl
  refine lv_aload_n hx hb dL_law_980 rfl (lv_at hl 2 rfl) ?_
  refine caVi (n := 0) (wr := [(y0, .inr (11, mFs r mv0))]) (rest := []) hx hb hml hown hts hE hP hD hS hA (cnX10_turning_1 l dC dI cy x0 (x 25) (x 26) (x 0) (x 2) (x 21) (x 20) (x 29) (x 31) (x 35) (x 27) (x 13) (x 14) (x 15)) k_1150 k_1151 k_1152 k_101 k_1153 (by decide +kernel) ⟨Nat.le_of_ble_eq_true rfl, Nat.le_of_ble_eq_true rfl⟩ [0, 1, 2] [3] rfl rfl rfl (by decide) (by decide) (by decide) 0 10 rfl rfl rfl hl.1 rfl (Nat.le_of_ble_eq_true rfl) dL_law_981 ⟨Nat.le_of_ble_eq_true rfl, Nat.le_of_ble_eq_true rfl⟩ (fun rr u H locs hw hP hD hS => ?_)
  have hP : va_P (dC, dI) vwCl [(y0, .inr (11, mFs r mv0))] H := hP
  have hD : va_D (fun q : Nat => s.heap.size ≤ q) [(y0, .inr (11, mFs r mv0))] := hD
  refine tI (y := (F_turning)) hw ?_
  refine lv_aload_n hx hb dL_law_984 rfl (lv_at hl 1 rfl) ?_
  refine caVi (n := 0) (wr := []) (rest := [.int (F_turning)]) hx hb hml hown hts hE hP hD hS hA (cnX11_turning_1 l dC dI cy y0 r) k_1960 k_1961 k_1962 k_114 k_1963 (by decide +kernel) ⟨Nat.le_of_ble_eq_true rfl, Nat.le_of_ble_eq_true rfl⟩ [0] [] rfl rfl rfl (by decide) (by decide) (by decide) 0 11 rfl rfl rfl hl.1 rfl (Nat.le_of_ble_eq_true rfl) dL_law_985 ⟨Nat.le_of_ble_eq_true rfl, Nat.le_of_ble_eq_true rfl⟩ (fun rr u H locs hw hP hD hS => ?_)
  have hP : va_P (dC, dI) vwCl [] H := hP
  have hD : va_D (fun q : Nat => s.heap.size ≤ q) [] := hD
  refine tI (y := (F_turning)) hw ?_
  refine lv_icmp_eq (tgt := 1413) hx hb dL_law_988 (by decide) (fun _ => ?_) (fun c0 => absurd rfl c0)
  exact fin _ _ _ hS hl
set_option maxHeartbeats 4000000 in
set_option maxRecDepth 100000 in
theorem law_29 {p : Program} {l : Launch} {e : Env} {s : State} {m : MethodId} {below : List Frame} {meth : Method} {c : Code} {dC : Nat → ClassId} {dI : Nat → Nat → Nat} {cy : Nat → ClassId} {b : Nat} {xs : Nat → Int32} {Q : State → Prop} (hx : p.tables.exec = Jvm.exec) (hb : c.code = code) (hml : c.maxLocals = 4) (hown : s.vm.findClass RL = some m.cls) (hts : ∀ w ∈ BIG, w.before #[Value.ref b] s = true) (hE : ENV (dC, dI) cy s) (hX : va_X b 6 xs s s.heap) (hbl : b < s.heap.size) {x0 y0 : Nat} {x r : Nat → Nat} {H : Heap} {locs : List Loc} {ls : Array Slot} (hP : va_P (dC, dI) vwCl (LW cy x0 y0 x r) H) (hD : va_D (fun q : Nat => s.heap.size ≤ q) (LW cy x0 y0 x r)) (hS : va_S (fun q : Nat => s.heap.size ≤ q) s.heap H locs) (hl : lv_has ls 4 [(3, .int 0), (2, .ref y0), (1, .ref x0), (0, .ref b)]) (fin : ∀ (H : Heap) (locs : List Loc) (ls : Array Slot), va_S (fun q : Nat => s.heap.size ≤ q) s.heap H locs → lv_has ls 4 [(3, .int 0), (2, .ref y0), (1, .ref x0), (0, .ref b)] → W p l e room_1 s m #[Value.ref b] below meth c H locs 81 11738 Q (F0 m 1413 ls [])) : W p l e room_1 s m #[Value.ref b] below meth c H locs 81 11738 Q (F0 m 993 ls []) := by
  have hA : ∀ q : Nat, s.heap.size ≤ q → (fun q : Nat => s.heap.size ≤ q) q := fun _ h => h
  have hbA : ¬ (fun q : Nat => s.heap.size ≤ q) b := Nat.not_le.mpr hbl
  have hP := hP.sub (ws' := [(x0, .inr (10, [.ref (x 0), .ref (x 2), .ref (x 26), .ref (x 21), .ref (x 20), .ref (x 25), .ref (x 29), .ref (x 31), .ref (x 35), .int 0])), ((x 26), .inr (7, [.ref (x 13), .ref (x 14), .ref (x 15), .int 0, .int 0, .int 10, .int 150, .int 2, .int 0, .int 0])), (y0, .inr (11, mFs r mv0)), ((r 59), .inl (cy 1, 39, .inl zF)), ((r 60), .inl (cy 1, 39, .inl zF))]) [0, 27, 42, 66, 67] rfl
  have hD := hD.sub (ws' := [(x0, .inr (10, [.ref (x 0), .ref (x 2), .ref (x 26), .ref (x 21), .ref (x 20), .ref (x 25), .ref (x 29), .ref (x 31), .ref (x 35), .int 0])), ((x 26), .inr (7, [.ref (x 13), .ref (x 14), .ref (x 15), .int 0, .int 0, .int 10, .int 150, .int 2, .int 0, .int 0])), (y0, .inr (11, mFs r mv0)), ((r 59), .inl (cy 1, 39, .inl zF)), ((r 60), .inl (cy 1, 39, .inl zF))]) [0, 27, 42, 66, 67] (by decide) rfl
  refine lv_aload_n hx hb dL_law_993 rfl (lv_at hl 2 rfl) ?_
  refine caVi (n := 0) (wr := [(y0, .inr (11, mFs r mv0)), ((r 59), .inl (cy 1, 39, .inl zF)), ((r 60), .inl (cy 1, 39, .inl zF))]) (rest := []) hx hb hml hown hts hE hP hD hS hA (cnX10_rags_1 l dC dI cy x0 (x 26) (x 0) (x 2) (x 21) (x 20) (x 25) (x 29) (x 31) (x 35) (x 13) (x 14) (x 15)) k_1159 k_1160 k_1161 k_101 k_1162 (by decide +kernel) ⟨Nat.le_of_ble_eq_true rfl, Nat.le_of_ble_eq_true rfl⟩ [0, 1] [2, 3, 4] rfl rfl rfl (by decide) (by decide) (by decide) 0 10 rfl rfl rfl hl.1 rfl (Nat.le_of_ble_eq_true rfl) dL_law_994 ⟨Nat.le_of_ble_eq_true rfl, Nat.le_of_ble_eq_true rfl⟩ (fun rr u H locs hw hP hD hS => ?_)
  have hP : va_P (dC, dI) vwCl [(y0, .inr (11, mFs r mv0)), ((r 59), .inl (cy 1, 39, .inl zF)), ((r 60), .inl (cy 1, 39, .inl zF))] H := hP
  have hD : va_D (fun q : Nat => s.heap.size ≤ q) [(y0, .inr (11, mFs r mv0)), ((r 59), .inl (cy 1, 39, .inl zF)), ((r 60), .inl (cy 1, 39, .inl zF))] := hD
  refine tI (y := (F_rags)) hw ?_
  refine lv_aload_n hx hb dL_law_997 rfl (lv_at hl 1 rfl) ?_
  refine caVi (n := 0) (wr := []) (rest := [.int (F_rags)]) hx hb hml hown hts hE hP hD hS hA (cnX11_rags_1 l dC dI cy y0 r) k_1964 k_1965 k_1966 k_114 k_1967 (by decide +kernel) ⟨Nat.le_of_ble_eq_true rfl, Nat.le_of_ble_eq_true rfl⟩ [0, 1, 2] [] rfl rfl rfl (by decide) (by decide) (by decide) 0 11 rfl rfl rfl hl.1 rfl (Nat.le_of_ble_eq_true rfl) dL_law_998 ⟨Nat.le_of_ble_eq_true rfl, Nat.le_of_ble_eq_true rfl⟩ (fun rr u H locs hw hP hD hS => ?_)
  have hP : va_P (dC, dI) vwCl [] H := hP
  have hD : va_D (fun q : Nat => s.heap.size ≤ q) [] := hD
  refine tI (y := (F_rags)) hw ?_
  refine lv_icmp_eq (tgt := 1413) hx hb dL_law_1001 (by decide) (fun _ => ?_) (fun c0 => absurd rfl c0)
  exact fin _ _ _ hS hl
set_option maxHeartbeats 4000000 in
set_option maxRecDepth 100000 in
theorem law_30 {p : Program} {l : Launch} {e : Env} {s : State} {m : MethodId} {below : List Frame} {meth : Method} {c : Code} {dC : Nat → ClassId} {dI : Nat → Nat → Nat} {cy : Nat → ClassId} {b : Nat} {xs : Nat → Int32} {Q : State → Prop} (hx : p.tables.exec = Jvm.exec) (hb : c.code = code) (hml : c.maxLocals = 4) (hown : s.vm.findClass RL = some m.cls) (hts : ∀ w ∈ BIG, w.before #[Value.ref b] s = true) (hE : ENV (dC, dI) cy s) (hX : va_X b 6 xs s s.heap) (hbl : b < s.heap.size) {x0 y0 : Nat} {x r : Nat → Nat} {H : Heap} {locs : List Loc} {ls : Array Slot} (hP : va_P (dC, dI) vwCl (LW cy x0 y0 x r) H) (hD : va_D (fun q : Nat => s.heap.size ≤ q) (LW cy x0 y0 x r)) (hS : va_S (fun q : Nat => s.heap.size ≤ q) s.heap H locs) (hl : lv_has ls 4 [(3, .int 0), (2, .ref y0), (1, .ref x0), (0, .ref b)]) (fin : ∀ (H : Heap) (locs : List Loc) (ls : Array Slot), va_S (fun q : Nat => s.heap.size ≤ q) s.heap H locs → lv_has ls 4 [(3, .int 0), (2, .ref y0), (1, .ref x0), (0, .ref b)] → W p l e room_1 s m #[Value.ref b] below meth c H locs 81 11738 Q (F0 m 1413 ls [])) : W p l e room_1 s m #[Value.ref b] below meth c H locs 81 11738 Q (F0 m 1006 ls []) := by
  have hA : ∀ q : Nat, s.heap.size ≤ q → (fun q : Nat => s.heap.size ≤ q) q := fun _ h => h
  have hbA : ¬ (fun q : Nat => s.heap.size ≤ q) b := Nat.not_le.mpr hbl
  have hP := hP.sub (ws' := [(x0, .inr (10, [.ref (x 0), .ref (x 2), .ref (x 26), .ref (x 21), .ref (x 20), .ref (x 25), .ref (x 29), .ref (x 31), .ref (x 35), .int 0])), ((x 26), .inr (7, [.ref (x 13), .ref (x 14), .ref (x 15), .int 0, .int 0, .int 10, .int 150, .int 2, .int 0, .int 0])), (y0, .inr (11, mFs r mv0)), ((r 59), .inl (cy 1, 39, .inl zF)), ((r 60), .inl (cy 1, 39, .inl zF))]) [0, 27, 42, 66, 67] rfl
  have hD := hD.sub (ws' := [(x0, .inr (10, [.ref (x 0), .ref (x 2), .ref (x 26), .ref (x 21), .ref (x 20), .ref (x 25), .ref (x 29), .ref (x 31), .ref (x 35), .int 0])), ((x 26), .inr (7, [.ref (x 13), .ref (x 14), .ref (x 15), .int 0, .int 0, .int 10, .int 150, .int 2, .int 0, .int 0])), (y0, .inr (11, mFs r mv0)), ((r 59), .inl (cy 1, 39, .inl zF)), ((r 60), .inl (cy 1, 39, .inl zF))]) [0, 27, 42, 66, 67] (by decide) rfl
  refine lv_aload_n hx hb dL_law_1006 rfl (lv_at hl 2 rfl) ?_
  refine caVi (n := 0) (wr := [(y0, .inr (11, mFs r mv0)), ((r 59), .inl (cy 1, 39, .inl zF)), ((r 60), .inl (cy 1, 39, .inl zF))]) (rest := []) hx hb hml hown hts hE hP hD hS hA (cnX10_naked_1 l dC dI cy x0 (x 26) (x 0) (x 2) (x 21) (x 20) (x 25) (x 29) (x 31) (x 35) (x 13) (x 14) (x 15)) k_1167 k_1168 k_1169 k_101 k_1170 (by decide +kernel) ⟨Nat.le_of_ble_eq_true rfl, Nat.le_of_ble_eq_true rfl⟩ [0, 1] [2, 3, 4] rfl rfl rfl (by decide) (by decide) (by decide) 0 10 rfl rfl rfl hl.1 rfl (Nat.le_of_ble_eq_true rfl) dL_law_1007 ⟨Nat.le_of_ble_eq_true rfl, Nat.le_of_ble_eq_true rfl⟩ (fun rr u H locs hw hP hD hS => ?_)
  have hP : va_P (dC, dI) vwCl [(y0, .inr (11, mFs r mv0)), ((r 59), .inl (cy 1, 39, .inl zF)), ((r 60), .inl (cy 1, 39, .inl zF))] H := hP
  have hD : va_D (fun q : Nat => s.heap.size ≤ q) [(y0, .inr (11, mFs r mv0)), ((r 59), .inl (cy 1, 39, .inl zF)), ((r 60), .inl (cy 1, 39, .inl zF))] := hD
  refine tI (y := (F_naked)) hw ?_
  refine lv_aload_n hx hb dL_law_1010 rfl (lv_at hl 1 rfl) ?_
  refine caVi (n := 0) (wr := []) (rest := [.int (F_naked)]) hx hb hml hown hts hE hP hD hS hA (cnX11_naked_1 l dC dI cy y0 r) k_1972 k_1973 k_1974 k_114 k_1975 (by decide +kernel) ⟨Nat.le_of_ble_eq_true rfl, Nat.le_of_ble_eq_true rfl⟩ [0, 1, 2] [] rfl rfl rfl (by decide) (by decide) (by decide) 0 11 rfl rfl rfl hl.1 rfl (Nat.le_of_ble_eq_true rfl) dL_law_1011 ⟨Nat.le_of_ble_eq_true rfl, Nat.le_of_ble_eq_true rfl⟩ (fun rr u H locs hw hP hD hS => ?_)
  have hP : va_P (dC, dI) vwCl [] H := hP
  have hD : va_D (fun q : Nat => s.heap.size ≤ q) [] := hD
  refine tI (y := (F_naked)) hw ?_
  refine lv_icmp_eq (tgt := 1413) hx hb dL_law_1014 (by decide) (fun _ => ?_) (fun c0 => absurd rfl c0)
  exact fin _ _ _ hS hl
set_option maxHeartbeats 4000000 in
set_option maxRecDepth 100000 in
theorem law_31 {p : Program} {l : Launch} {e : Env} {s : State} {m : MethodId} {below : List Frame} {meth : Method} {c : Code} {dC : Nat → ClassId} {dI : Nat → Nat → Nat} {cy : Nat → ClassId} {b : Nat} {xs : Nat → Int32} {Q : State → Prop} (hx : p.tables.exec = Jvm.exec) (hb : c.code = code) (hml : c.maxLocals = 4) (hown : s.vm.findClass RL = some m.cls) (hts : ∀ w ∈ BIG, w.before #[Value.ref b] s = true) (hE : ENV (dC, dI) cy s) (hX : va_X b 6 xs s s.heap) (hbl : b < s.heap.size) {x0 y0 : Nat} {x r : Nat → Nat} {H : Heap} {locs : List Loc} {ls : Array Slot} (hP : va_P (dC, dI) vwCl (LW cy x0 y0 x r) H) (hD : va_D (fun q : Nat => s.heap.size ≤ q) (LW cy x0 y0 x r)) (hS : va_S (fun q : Nat => s.heap.size ≤ q) s.heap H locs) (hl : lv_has ls 4 [(3, .int 0), (2, .ref y0), (1, .ref x0), (0, .ref b)]) (fin : ∀ (H : Heap) (locs : List Loc) (ls : Array Slot), va_S (fun q : Nat => s.heap.size ≤ q) s.heap H locs → lv_has ls 4 [(3, .int 0), (2, .ref y0), (1, .ref x0), (0, .ref b)] → W p l e room_1 s m #[Value.ref b] below meth c H locs 81 11738 Q (F0 m 1413 ls [])) : W p l e room_1 s m #[Value.ref b] below meth c H locs 81 11738 Q (F0 m 1019 ls []) := by
  have hA : ∀ q : Nat, s.heap.size ≤ q → (fun q : Nat => s.heap.size ≤ q) q := fun _ h => h
  have hbA : ¬ (fun q : Nat => s.heap.size ≤ q) b := Nat.not_le.mpr hbl
  have hP := hP.sub (ws' := [(x0, .inr (10, [.ref (x 0), .ref (x 2), .ref (x 26), .ref (x 21), .ref (x 20), .ref (x 25), .ref (x 29), .ref (x 31), .ref (x 35), .int 0])), ((x 26), .inr (7, [.ref (x 13), .ref (x 14), .ref (x 15), .int 0, .int 0, .int 10, .int 150, .int 2, .int 0, .int 0])), (y0, .inr (11, mFs r mv0)), ((r 59), .inl (cy 1, 39, .inl zF)), ((r 60), .inl (cy 1, 39, .inl zF))]) [0, 27, 42, 66, 67] rfl
  have hD := hD.sub (ws' := [(x0, .inr (10, [.ref (x 0), .ref (x 2), .ref (x 26), .ref (x 21), .ref (x 20), .ref (x 25), .ref (x 29), .ref (x 31), .ref (x 35), .int 0])), ((x 26), .inr (7, [.ref (x 13), .ref (x 14), .ref (x 15), .int 0, .int 0, .int 10, .int 150, .int 2, .int 0, .int 0])), (y0, .inr (11, mFs r mv0)), ((r 59), .inl (cy 1, 39, .inl zF)), ((r 60), .inl (cy 1, 39, .inl zF))]) [0, 27, 42, 66, 67] (by decide) rfl
  refine lv_aload_n hx hb dL_law_1019 rfl (lv_at hl 2 rfl) ?_
  refine lv_aload_n hx hb dL_law_1020 rfl (lv_at hl 3 rfl) ?_
  refine lv_iload_n hx hb dL_law_1021 rfl (lv_at hl 0 rfl) ?_
  refine lv_iconst (v := 1) hx hb dL_law_1022 (by decide) ?_
  refine lv_iadd hx hb dL_law_1023 ?_
  refine tI (y := 1) (by decide) ?_
  refine va_sld hx hb hX hbl hbA hS (vp_in_nI (n := 1) (by decide) (by decide)) dL_law_1024 ?_
  refine tI (y := xs 1) (congrArg xs (nI_clamp (n := 1) (by decide))) ?_
  refine caVi (n := 1) (wr := [(y0, .inr (11, mFs r mv0)), ((r 59), .inl (cy 1, 39, .inl zF)), ((r 60), .inl (cy 1, 39, .inl zF))]) (rest := []) hx hb hml hown hts hE hP hD hS hA (cnX10_popular_1 l dC dI cy x0 (x 26) (x 0) (x 2) (x 21) (x 20) (x 25) (x 29) (x 31) (x 35) (x 13) (x 14) (x 15) (xs 1)) k_1171 k_1172 k_1173 k_101 k_1174 (by decide +kernel) ⟨Nat.le_of_ble_eq_true rfl, Nat.le_of_ble_eq_true rfl⟩ [0, 1] [2, 3, 4] rfl rfl rfl (by decide) (by decide) (by decide) 0 10 rfl rfl rfl hl.1 rfl (Nat.le_of_ble_eq_true rfl) dL_law_1025 ⟨Nat.le_of_ble_eq_true rfl, Nat.le_of_ble_eq_true rfl⟩ (fun rr u H locs hw hP hD hS => ?_)
  have hP : va_P (dC, dI) vwCl [(y0, .inr (11, mFs r mv0)), ((r 59), .inl (cy 1, 39, .inl zF)), ((r 60), .inl (cy 1, 39, .inl zF))] H := hP
  have hD : va_D (fun q : Nat => s.heap.size ≤ q) [(y0, .inr (11, mFs r mv0)), ((r 59), .inl (cy 1, 39, .inl zF)), ((r 60), .inl (cy 1, 39, .inl zF))] := hD
  refine tI (y := (F_popular (xs 1))) hw ?_
  refine lv_aload_n hx hb dL_law_1028 rfl (lv_at hl 1 rfl) ?_
  refine lv_aload_n hx hb dL_law_1029 rfl (lv_at hl 3 rfl) ?_
  refine lv_iload_n hx hb dL_law_1030 rfl (lv_at hl 0 rfl) ?_
  refine lv_iconst (v := 1) hx hb dL_law_1031 (by decide) ?_
  refine lv_iadd hx hb dL_law_1032 ?_
  refine tI (y := 1) (by decide) ?_
  refine va_sld hx hb hX hbl hbA hS (vp_in_nI (n := 1) (by decide) (by decide)) dL_law_1033 ?_
  refine tI (y := xs 1) (congrArg xs (nI_clamp (n := 1) (by decide))) ?_
  refine caVi (n := 1) (wr := []) (rest := [.int (F_popular (xs 1))]) hx hb hml hown hts hE hP hD hS hA (cnX11_popular_1 l dC dI cy y0 r (xs 1)) k_1976 k_1977 k_1978 k_114 k_1979 (by decide +kernel) ⟨Nat.le_of_ble_eq_true rfl, Nat.le_of_ble_eq_true rfl⟩ [0, 1, 2] [] rfl rfl rfl (by decide) (by decide) (by decide) 0 11 rfl rfl rfl hl.1 rfl (Nat.le_of_ble_eq_true rfl) dL_law_1034 ⟨Nat.le_of_ble_eq_true rfl, Nat.le_of_ble_eq_true rfl⟩ (fun rr u H locs hw hP hD hS => ?_)
  have hP : va_P (dC, dI) vwCl [] H := hP
  have hD : va_D (fun q : Nat => s.heap.size ≤ q) [] := hD
  refine tI (y := (F_popular (xs 1))) hw ?_
  refine lv_icmp_eq (tgt := 1413) hx hb dL_law_1037 (by decide) (fun _ => ?_) (fun c0 => absurd rfl c0)
  exact fin _ _ _ hS hl
set_option maxHeartbeats 4000000 in
set_option maxRecDepth 100000 in
theorem law_32 {p : Program} {l : Launch} {e : Env} {s : State} {m : MethodId} {below : List Frame} {meth : Method} {c : Code} {dC : Nat → ClassId} {dI : Nat → Nat → Nat} {cy : Nat → ClassId} {b : Nat} {xs : Nat → Int32} {Q : State → Prop} (hx : p.tables.exec = Jvm.exec) (hb : c.code = code) (hml : c.maxLocals = 4) (hown : s.vm.findClass RL = some m.cls) (hts : ∀ w ∈ BIG, w.before #[Value.ref b] s = true) (hE : ENV (dC, dI) cy s) (hX : va_X b 6 xs s s.heap) (hbl : b < s.heap.size) {x0 y0 : Nat} {x r : Nat → Nat} {H : Heap} {locs : List Loc} {ls : Array Slot} (hP : va_P (dC, dI) vwCl (LW cy x0 y0 x r) H) (hD : va_D (fun q : Nat => s.heap.size ≤ q) (LW cy x0 y0 x r)) (hS : va_S (fun q : Nat => s.heap.size ≤ q) s.heap H locs) (hl : lv_has ls 4 [(3, .int 0), (2, .ref y0), (1, .ref x0), (0, .ref b)]) (fin : ∀ (H : Heap) (locs : List Loc) (ls : Array Slot), va_S (fun q : Nat => s.heap.size ≤ q) s.heap H locs → lv_has ls 4 [(3, .int 0), (2, .ref y0), (1, .ref x0), (0, .ref b)] → W p l e room_1 s m #[Value.ref b] below meth c H locs 81 11738 Q (F0 m 1413 ls [])) : W p l e room_1 s m #[Value.ref b] below meth c H locs 81 11738 Q (F0 m 1042 ls []) := by
  have hA : ∀ q : Nat, s.heap.size ≤ q → (fun q : Nat => s.heap.size ≤ q) q := fun _ h => h
  have hbA : ¬ (fun q : Nat => s.heap.size ≤ q) b := Nat.not_le.mpr hbl
  have hP := hP.sub (ws' := [(x0, .inr (10, [.ref (x 0), .ref (x 2), .ref (x 26), .ref (x 21), .ref (x 20), .ref (x 25), .ref (x 29), .ref (x 31), .ref (x 35), .int 0])), ((x 25), .inr (3, [.ref (x 26), .ref (x 21), .ref (x 27), .int 0, .int 0, .int 0, .int 0, .int 0, .int 0, .int 0])), ((x 26), .inr (7, [.ref (x 13), .ref (x 14), .ref (x 15), .int 0, .int 0, .int 10, .int 150, .int 2, .int 0, .int 0])), (y0, .inr (11, mFs r mv0)), ((r 59), .inl (cy 1, 39, .inl zF)), ((r 60), .inl (cy 1, 39, .inl zF))]) [0, 26, 27, 42, 66, 67] rfl
  have hD := hD.sub (ws' := [(x0, .inr (10, [.ref (x 0), .ref (x 2), .ref (x 26), .ref (x 21), .ref (x 20), .ref (x 25), .ref (x 29), .ref (x 31), .ref (x 35), .int 0])), ((x 25), .inr (3, [.ref (x 26), .ref (x 21), .ref (x 27), .int 0, .int 0, .int 0, .int 0, .int 0, .int 0, .int 0])), ((x 26), .inr (7, [.ref (x 13), .ref (x 14), .ref (x 15), .int 0, .int 0, .int 10, .int 150, .int 2, .int 0, .int 0])), (y0, .inr (11, mFs r mv0)), ((r 59), .inl (cy 1, 39, .inl zF)), ((r 60), .inl (cy 1, 39, .inl zF))]) [0, 26, 27, 42, 66, 67] (by decide) rfl
  refine lv_aload_n hx hb dL_law_1042 rfl (lv_at hl 2 rfl) ?_
  refine lv_aload_n hx hb dL_law_1043 rfl (lv_at hl 3 rfl) ?_
  refine lv_iload_n hx hb dL_law_1044 rfl (lv_at hl 0 rfl) ?_
  refine lv_iconst (v := 1) hx hb dL_law_1045 (by decide) ?_
  refine lv_iadd hx hb dL_law_1046 ?_
  refine tI (y := 1) (by decide) ?_
  refine va_sld hx hb hX hbl hbA hS (vp_in_nI (n := 1) (by decide) (by decide)) dL_law_1047 ?_
  refine tI (y := xs 1) (congrArg xs (nI_clamp (n := 1) (by decide))) ?_
  refine caVi (n := 1) (wr := [(y0, .inr (11, mFs r mv0)), ((r 59), .inl (cy 1, 39, .inl zF)), ((r 60), .inl (cy 1, 39, .inl zF))]) (rest := []) hx hb hml hown hts hE hP hD hS hA (cnX10_law_1 l dC dI cy x0 (x 25) (x 26) (x 0) (x 2) (x 21) (x 20) (x 29) (x 31) (x 35) (x 27) (x 13) (x 14) (x 15) (xs 1)) k_1175 k_1176 k_1177 k_101 k_1178 (by decide +kernel) ⟨Nat.le_of_ble_eq_true rfl, Nat.le_of_ble_eq_true rfl⟩ [0, 1, 2] [3, 4, 5] rfl rfl rfl (by decide) (by decide) (by decide) 0 10 rfl rfl rfl hl.1 rfl (Nat.le_of_ble_eq_true rfl) dL_law_1048 ⟨Nat.le_of_ble_eq_true rfl, Nat.le_of_ble_eq_true rfl⟩ (fun rr u H locs hw hP hD hS => ?_)
  have hP : va_P (dC, dI) vwCl [(y0, .inr (11, mFs r mv0)), ((r 59), .inl (cy 1, 39, .inl zF)), ((r 60), .inl (cy 1, 39, .inl zF))] H := hP
  have hD : va_D (fun q : Nat => s.heap.size ≤ q) [(y0, .inr (11, mFs r mv0)), ((r 59), .inl (cy 1, 39, .inl zF)), ((r 60), .inl (cy 1, 39, .inl zF))] := hD
  refine tI (y := (F_law (xs 1))) hw ?_
  refine lv_aload_n hx hb dL_law_1051 rfl (lv_at hl 1 rfl) ?_
  refine lv_aload_n hx hb dL_law_1052 rfl (lv_at hl 3 rfl) ?_
  refine lv_iload_n hx hb dL_law_1053 rfl (lv_at hl 0 rfl) ?_
  refine lv_iconst (v := 1) hx hb dL_law_1054 (by decide) ?_
  refine lv_iadd hx hb dL_law_1055 ?_
  refine tI (y := 1) (by decide) ?_
  refine va_sld hx hb hX hbl hbA hS (vp_in_nI (n := 1) (by decide) (by decide)) dL_law_1056 ?_
  refine tI (y := xs 1) (congrArg xs (nI_clamp (n := 1) (by decide))) ?_
  refine caVi (n := 1) (wr := []) (rest := [.int (F_law (xs 1))]) hx hb hml hown hts hE hP hD hS hA (cnX11_law_1 l dC dI cy y0 r (xs 1)) k_1980 k_1981 k_1982 k_114 k_1983 (by decide +kernel) ⟨Nat.le_of_ble_eq_true rfl, Nat.le_of_ble_eq_true rfl⟩ [0, 1, 2] [] rfl rfl rfl (by decide) (by decide) (by decide) 0 11 rfl rfl rfl hl.1 rfl (Nat.le_of_ble_eq_true rfl) dL_law_1057 ⟨Nat.le_of_ble_eq_true rfl, Nat.le_of_ble_eq_true rfl⟩ (fun rr u H locs hw hP hD hS => ?_)
  have hP : va_P (dC, dI) vwCl [] H := hP
  have hD : va_D (fun q : Nat => s.heap.size ≤ q) [] := hD
  refine tI (y := (F_law (xs 1))) hw ?_
  refine lv_icmp_eq (tgt := 1413) hx hb dL_law_1060 (by decide) (fun _ => ?_) (fun c0 => absurd rfl c0)
  exact fin _ _ _ hS hl
set_option maxHeartbeats 4000000 in
set_option maxRecDepth 100000 in
theorem law_33 {p : Program} {l : Launch} {e : Env} {s : State} {m : MethodId} {below : List Frame} {meth : Method} {c : Code} {dC : Nat → ClassId} {dI : Nat → Nat → Nat} {cy : Nat → ClassId} {b : Nat} {xs : Nat → Int32} {Q : State → Prop} (hx : p.tables.exec = Jvm.exec) (hb : c.code = code) (hml : c.maxLocals = 4) (hown : s.vm.findClass RL = some m.cls) (hts : ∀ w ∈ BIG, w.before #[Value.ref b] s = true) (hE : ENV (dC, dI) cy s) (hX : va_X b 6 xs s s.heap) (hbl : b < s.heap.size) {x0 y0 : Nat} {x r : Nat → Nat} {H : Heap} {locs : List Loc} {ls : Array Slot} (hP : va_P (dC, dI) vwCl (LW cy x0 y0 x r) H) (hD : va_D (fun q : Nat => s.heap.size ≤ q) (LW cy x0 y0 x r)) (hS : va_S (fun q : Nat => s.heap.size ≤ q) s.heap H locs) (hl : lv_has ls 4 [(3, .int 0), (2, .ref y0), (1, .ref x0), (0, .ref b)]) (fin : ∀ (H : Heap) (locs : List Loc) (ls : Array Slot), va_S (fun q : Nat => s.heap.size ≤ q) s.heap H locs → lv_has ls 4 [(3, .int 0), (2, .ref y0), (1, .ref x0), (0, .ref b)] → W p l e room_1 s m #[Value.ref b] below meth c H locs 81 11738 Q (F0 m 1413 ls [])) : W p l e room_1 s m #[Value.ref b] below meth c H locs 81 11738 Q (F0 m 1065 ls []) := by
  have hA : ∀ q : Nat, s.heap.size ≤ q → (fun q : Nat => s.heap.size ≤ q) q := fun _ h => h
  have hbA : ¬ (fun q : Nat => s.heap.size ≤ q) b := Nat.not_le.mpr hbl
  have hP := hP.sub (ws' := [(x0, .inr (10, [.ref (x 0), .ref (x 2), .ref (x 26), .ref (x 21), .ref (x 20), .ref (x 25), .ref (x 29), .ref (x 31), .ref (x 35), .int 0])), ((x 25), .inr (3, [.ref (x 26), .ref (x 21), .ref (x 27), .int 0, .int 0, .int 0, .int 0, .int 0, .int 0, .int 0])), ((x 26), .inr (7, [.ref (x 13), .ref (x 14), .ref (x 15), .int 0, .int 0, .int 10, .int 150, .int 2, .int 0, .int 0])), (y0, .inr (11, mFs r mv0)), ((r 59), .inl (cy 1, 39, .inl zF)), ((r 60), .inl (cy 1, 39, .inl zF))]) [0, 26, 27, 42, 66, 67] rfl
  have hD := hD.sub (ws' := [(x0, .inr (10, [.ref (x 0), .ref (x 2), .ref (x 26), .ref (x 21), .ref (x 20), .ref (x 25), .ref (x 29), .ref (x 31), .ref (x 35), .int 0])), ((x 25), .inr (3, [.ref (x 26), .ref (x 21), .ref (x 27), .int 0, .int 0, .int 0, .int 0, .int 0, .int 0, .int 0])), ((x 26), .inr (7, [.ref (x 13), .ref (x 14), .ref (x 15), .int 0, .int 0, .int 10, .int 150, .int 2, .int 0, .int 0])), (y0, .inr (11, mFs r mv0)), ((r 59), .inl (cy 1, 39, .inl zF)), ((r 60), .inl (cy 1, 39, .inl zF))]) [0, 26, 27, 42, 66, 67] (by decide) rfl
  refine lv_aload_n hx hb dL_law_1065 rfl (lv_at hl 2 rfl) ?_
  refine caVi (n := 0) (wr := [(y0, .inr (11, mFs r mv0)), ((r 59), .inl (cy 1, 39, .inl zF)), ((r 60), .inl (cy 1, 39, .inl zF))]) (rest := []) hx hb hml hown hts hE hP hD hS hA (cnX10_ease_1 l dC dI cy x0 (x 25) (x 26) (x 0) (x 2) (x 21) (x 20) (x 29) (x 31) (x 35) (x 27) (x 13) (x 14) (x 15)) k_1184 k_1185 k_1186 k_101 k_1187 (by decide +kernel) ⟨Nat.le_of_ble_eq_true rfl, Nat.le_of_ble_eq_true rfl⟩ [0, 1, 2] [3, 4, 5] rfl rfl rfl (by decide) (by decide) (by decide) 0 10 rfl rfl rfl hl.1 rfl (Nat.le_of_ble_eq_true rfl) dL_law_1066 ⟨Nat.le_of_ble_eq_true rfl, Nat.le_of_ble_eq_true rfl⟩ (fun rr u H locs hw hP hD hS => ?_)
  have hP : va_P (dC, dI) vwCl [(y0, .inr (11, mFs r mv0)), ((r 59), .inl (cy 1, 39, .inl zF)), ((r 60), .inl (cy 1, 39, .inl zF))] H := hP
  have hD : va_D (fun q : Nat => s.heap.size ≤ q) [(y0, .inr (11, mFs r mv0)), ((r 59), .inl (cy 1, 39, .inl zF)), ((r 60), .inl (cy 1, 39, .inl zF))] := hD
  refine tI (y := (F_ease)) hw ?_
  refine lv_aload_n hx hb dL_law_1069 rfl (lv_at hl 1 rfl) ?_
  refine caVi (n := 0) (wr := []) (rest := [.int (F_ease)]) hx hb hml hown hts hE hP hD hS hA (cnX11_ease_1 l dC dI cy y0 r) k_1988 k_1989 k_1990 k_114 k_1991 (by decide +kernel) ⟨Nat.le_of_ble_eq_true rfl, Nat.le_of_ble_eq_true rfl⟩ [0, 1, 2] [] rfl rfl rfl (by decide) (by decide) (by decide) 0 11 rfl rfl rfl hl.1 rfl (Nat.le_of_ble_eq_true rfl) dL_law_1070 ⟨Nat.le_of_ble_eq_true rfl, Nat.le_of_ble_eq_true rfl⟩ (fun rr u H locs hw hP hD hS => ?_)
  have hP : va_P (dC, dI) vwCl [] H := hP
  have hD : va_D (fun q : Nat => s.heap.size ≤ q) [] := hD
  refine tI (y := (F_ease)) hw ?_
  refine lv_icmp_eq (tgt := 1413) hx hb dL_law_1073 (by decide) (fun _ => ?_) (fun c0 => absurd rfl c0)
  exact fin _ _ _ hS hl
set_option maxHeartbeats 4000000 in
set_option maxRecDepth 100000 in
theorem law_34 {p : Program} {l : Launch} {e : Env} {s : State} {m : MethodId} {below : List Frame} {meth : Method} {c : Code} {dC : Nat → ClassId} {dI : Nat → Nat → Nat} {cy : Nat → ClassId} {b : Nat} {xs : Nat → Int32} {Q : State → Prop} (hx : p.tables.exec = Jvm.exec) (hb : c.code = code) (hml : c.maxLocals = 4) (hown : s.vm.findClass RL = some m.cls) (hts : ∀ w ∈ BIG, w.before #[Value.ref b] s = true) (hE : ENV (dC, dI) cy s) (hX : va_X b 6 xs s s.heap) (hbl : b < s.heap.size) {x0 y0 : Nat} {x r : Nat → Nat} {H : Heap} {locs : List Loc} {ls : Array Slot} (hP : va_P (dC, dI) vwCl (LW cy x0 y0 x r) H) (hD : va_D (fun q : Nat => s.heap.size ≤ q) (LW cy x0 y0 x r)) (hS : va_S (fun q : Nat => s.heap.size ≤ q) s.heap H locs) (hl : lv_has ls 4 [(3, .int 0), (2, .ref y0), (1, .ref x0), (0, .ref b)]) (fin : ∀ (H : Heap) (locs : List Loc) (ls : Array Slot), va_S (fun q : Nat => s.heap.size ≤ q) s.heap H locs → lv_has ls 4 [(3, .int 0), (2, .ref y0), (1, .ref x0), (0, .ref b)] → W p l e room_1 s m #[Value.ref b] below meth c H locs 81 11738 Q (F0 m 1413 ls [])) : W p l e room_1 s m #[Value.ref b] below meth c H locs 81 11738 Q (F0 m 1078 ls []) := by
  have hA : ∀ q : Nat, s.heap.size ≤ q → (fun q : Nat => s.heap.size ≤ q) q := fun _ h => h
  have hbA : ¬ (fun q : Nat => s.heap.size ≤ q) b := Nat.not_le.mpr hbl
  have hP := hP.sub (ws' := [(x0, .inr (10, [.ref (x 0), .ref (x 2), .ref (x 26), .ref (x 21), .ref (x 20), .ref (x 25), .ref (x 29), .ref (x 31), .ref (x 35), .int 0])), ((x 21), .inr (1, [.ref (x 26), .ref (x 22)])), ((x 26), .inr (7, [.ref (x 13), .ref (x 14), .ref (x 15), .int 0, .int 0, .int 10, .int 150, .int 2, .int 0, .int 0])), ((x 29), .inr (2, [.ref (x 26), .ref (x 21), .ref (x 30)])), (y0, .inr (11, mFs r mv0)), ((r 59), .inl (cy 1, 39, .inl zF)), ((r 60), .inl (cy 1, 39, .inl zF))]) [0, 22, 27, 30, 42, 66, 67] rfl
  have hD := hD.sub (ws' := [(x0, .inr (10, [.ref (x 0), .ref (x 2), .ref (x 26), .ref (x 21), .ref (x 20), .ref (x 25), .ref (x 29), .ref (x 31), .ref (x 35), .int 0])), ((x 21), .inr (1, [.ref (x 26), .ref (x 22)])), ((x 26), .inr (7, [.ref (x 13), .ref (x 14), .ref (x 15), .int 0, .int 0, .int 10, .int 150, .int 2, .int 0, .int 0])), ((x 29), .inr (2, [.ref (x 26), .ref (x 21), .ref (x 30)])), (y0, .inr (11, mFs r mv0)), ((r 59), .inl (cy 1, 39, .inl zF)), ((r 60), .inl (cy 1, 39, .inl zF))]) [0, 22, 27, 30, 42, 66, 67] (by decide) rfl
  refine lv_aload_n hx hb dL_law_1078 rfl (lv_at hl 2 rfl) ?_
  refine caVi (n := 0) (wr := [(y0, .inr (11, mFs r mv0)), ((r 59), .inl (cy 1, 39, .inl zF)), ((r 60), .inl (cy 1, 39, .inl zF))]) (rest := []) hx hb hml hown hts hE hP hD hS hA (cnX10_breadth_1 l dC dI cy x0 (x 21) (x 26) (x 29) (x 0) (x 2) (x 20) (x 25) (x 31) (x 35) (x 22) (x 13) (x 14) (x 15) (x 30)) k_1192 k_1193 k_1194 k_101 k_1195 (by decide +kernel) ⟨Nat.le_of_ble_eq_true rfl, Nat.le_of_ble_eq_true rfl⟩ [0, 1, 2, 3] [4, 5, 6] rfl rfl rfl (by decide) (by decide) (by decide) 0 10 rfl rfl rfl hl.1 rfl (Nat.le_of_ble_eq_true rfl) dL_law_1079 ⟨Nat.le_of_ble_eq_true rfl, Nat.le_of_ble_eq_true rfl⟩ (fun rr u H locs hw hP hD hS => ?_)
  have hP : va_P (dC, dI) vwCl [(y0, .inr (11, mFs r mv0)), ((r 59), .inl (cy 1, 39, .inl zF)), ((r 60), .inl (cy 1, 39, .inl zF))] H := hP
  have hD : va_D (fun q : Nat => s.heap.size ≤ q) [(y0, .inr (11, mFs r mv0)), ((r 59), .inl (cy 1, 39, .inl zF)), ((r 60), .inl (cy 1, 39, .inl zF))] := hD
  refine tI (y := (F_breadth)) hw ?_
  refine lv_aload_n hx hb dL_law_1082 rfl (lv_at hl 1 rfl) ?_
  refine caVi (n := 0) (wr := []) (rest := [.int (F_breadth)]) hx hb hml hown hts hE hP hD hS hA (cnX11_breadth_1 l dC dI cy y0 r) k_1992 k_1993 k_1994 k_114 k_1995 (by decide +kernel) ⟨Nat.le_of_ble_eq_true rfl, Nat.le_of_ble_eq_true rfl⟩ [0, 1, 2] [] rfl rfl rfl (by decide) (by decide) (by decide) 0 11 rfl rfl rfl hl.1 rfl (Nat.le_of_ble_eq_true rfl) dL_law_1083 ⟨Nat.le_of_ble_eq_true rfl, Nat.le_of_ble_eq_true rfl⟩ (fun rr u H locs hw hP hD hS => ?_)
  have hP : va_P (dC, dI) vwCl [] H := hP
  have hD : va_D (fun q : Nat => s.heap.size ≤ q) [] := hD
  refine tI (y := (F_breadth)) hw ?_
  refine lv_icmp_eq (tgt := 1413) hx hb dL_law_1086 (by decide) (fun _ => ?_) (fun c0 => absurd rfl c0)
  exact fin _ _ _ hS hl
set_option maxHeartbeats 4000000 in
set_option maxRecDepth 100000 in
theorem law_35 {p : Program} {l : Launch} {e : Env} {s : State} {m : MethodId} {below : List Frame} {meth : Method} {c : Code} {dC : Nat → ClassId} {dI : Nat → Nat → Nat} {cy : Nat → ClassId} {b : Nat} {xs : Nat → Int32} {Q : State → Prop} (hx : p.tables.exec = Jvm.exec) (hb : c.code = code) (hml : c.maxLocals = 4) (hown : s.vm.findClass RL = some m.cls) (hts : ∀ w ∈ BIG, w.before #[Value.ref b] s = true) (hE : ENV (dC, dI) cy s) (hX : va_X b 6 xs s s.heap) (hbl : b < s.heap.size) {x0 y0 : Nat} {x r : Nat → Nat} {H : Heap} {locs : List Loc} {ls : Array Slot} (hP : va_P (dC, dI) vwCl (LW cy x0 y0 x r) H) (hD : va_D (fun q : Nat => s.heap.size ≤ q) (LW cy x0 y0 x r)) (hS : va_S (fun q : Nat => s.heap.size ≤ q) s.heap H locs) (hl : lv_has ls 4 [(3, .int 0), (2, .ref y0), (1, .ref x0), (0, .ref b)]) (fin : ∀ (H : Heap) (locs : List Loc) (ls : Array Slot), va_S (fun q : Nat => s.heap.size ≤ q) s.heap H locs → lv_has ls 4 [(3, .int 0), (2, .ref y0), (1, .ref x0), (0, .ref b)] → W p l e room_1 s m #[Value.ref b] below meth c H locs 81 11738 Q (F0 m 1413 ls [])) : W p l e room_1 s m #[Value.ref b] below meth c H locs 81 11738 Q (F0 m 1091 ls []) := by
  have hA : ∀ q : Nat, s.heap.size ≤ q → (fun q : Nat => s.heap.size ≤ q) q := fun _ h => h
  have hbA : ¬ (fun q : Nat => s.heap.size ≤ q) b := Nat.not_le.mpr hbl
  have hP := hP.sub (ws' := [(x0, .inr (10, [.ref (x 0), .ref (x 2), .ref (x 26), .ref (x 21), .ref (x 20), .ref (x 25), .ref (x 29), .ref (x 31), .ref (x 35), .int 0])), ((x 25), .inr (3, [.ref (x 26), .ref (x 21), .ref (x 27), .int 0, .int 0, .int 0, .int 0, .int 0, .int 0, .int 0])), ((x 21), .inr (1, [.ref (x 26), .ref (x 22)])), ((x 27), .inr (1, [.ref (x 26), .ref (x 28)])), ((x 22), .inl (cy 1, 44, .inl cF)), ((x 28), .inl (cy 1, 44, .inl cF)), ((x 26), .inr (7, [.ref (x 13), .ref (x 14), .ref (x 15), .int 0, .int 0, .int 10, .int 150, .int 2, .int 0, .int 0])), (y0, .inr (11, mFs r mv0)), ((r 59), .inl (cy 1, 39, .inl zF)), ((r 60), .inl (cy 1, 39, .inl zF))]) [0, 26, 22, 28, 23, 29, 27, 42, 66, 67] rfl
  have hD := hD.sub (ws' := [(x0, .inr (10, [.ref (x 0), .ref (x 2), .ref (x 26), .ref (x 21), .ref (x 20), .ref (x 25), .ref (x 29), .ref (x 31), .ref (x 35), .int 0])), ((x 25), .inr (3, [.ref (x 26), .ref (x 21), .ref (x 27), .int 0, .int 0, .int 0, .int 0, .int 0, .int 0, .int 0])), ((x 21), .inr (1, [.ref (x 26), .ref (x 22)])), ((x 27), .inr (1, [.ref (x 26), .ref (x 28)])), ((x 22), .inl (cy 1, 44, .inl cF)), ((x 28), .inl (cy 1, 44, .inl cF)), ((x 26), .inr (7, [.ref (x 13), .ref (x 14), .ref (x 15), .int 0, .int 0, .int 10, .int 150, .int 2, .int 0, .int 0])), (y0, .inr (11, mFs r mv0)), ((r 59), .inl (cy 1, 39, .inl zF)), ((r 60), .inl (cy 1, 39, .inl zF))]) [0, 26, 22, 28, 23, 29, 27, 42, 66, 67] (by decide) rfl
  refine lv_aload_n hx hb dL_law_1091 rfl (lv_at hl 2 rfl) ?_
  refine caVi (n := 0) (wr := [(y0, .inr (11, mFs r mv0)), ((r 59), .inl (cy 1, 39, .inl zF)), ((r 60), .inl (cy 1, 39, .inl zF))]) (rest := []) hx hb hml hown hts hE hP hD hS hA (cnX10_rout_1 l dC dI cy x0 (x 25) (x 21) (x 27) (x 22) (x 28) (x 26) (x 0) (x 2) (x 20) (x 29) (x 31) (x 35) (x 13) (x 14) (x 15)) k_1198 k_1199 k_1200 k_101 k_1201 (by decide +kernel) ⟨Nat.le_of_ble_eq_true rfl, Nat.le_of_ble_eq_true rfl⟩ [0, 1, 2, 3, 4, 5, 6] [7, 8, 9] rfl rfl rfl (by decide) (by decide) (by decide) 0 10 rfl rfl rfl hl.1 rfl (Nat.le_of_ble_eq_true rfl) dL_law_1092 ⟨Nat.le_of_ble_eq_true rfl, Nat.le_of_ble_eq_true rfl⟩ (fun rr u H locs hw hP hD hS => ?_)
  have hP : va_P (dC, dI) vwCl [(y0, .inr (11, mFs r mv0)), ((r 59), .inl (cy 1, 39, .inl zF)), ((r 60), .inl (cy 1, 39, .inl zF))] H := hP
  have hD : va_D (fun q : Nat => s.heap.size ≤ q) [(y0, .inr (11, mFs r mv0)), ((r 59), .inl (cy 1, 39, .inl zF)), ((r 60), .inl (cy 1, 39, .inl zF))] := hD
  refine tI (y := (F_rout)) hw ?_
  refine lv_aload_n hx hb dL_law_1095 rfl (lv_at hl 1 rfl) ?_
  refine caVi (n := 0) (wr := []) (rest := [.int (F_rout)]) hx hb hml hown hts hE hP hD hS hA (cnX11_rout_1 l dC dI cy y0 r) k_1861 k_1862 k_1863 k_114 k_1864 (by decide +kernel) ⟨Nat.le_of_ble_eq_true rfl, Nat.le_of_ble_eq_true rfl⟩ [0, 1, 2] [] rfl rfl rfl (by decide) (by decide) (by decide) 0 11 rfl rfl rfl hl.1 rfl (Nat.le_of_ble_eq_true rfl) dL_law_1096 ⟨Nat.le_of_ble_eq_true rfl, Nat.le_of_ble_eq_true rfl⟩ (fun rr u H locs hw hP hD hS => ?_)
  have hP : va_P (dC, dI) vwCl [] H := hP
  have hD : va_D (fun q : Nat => s.heap.size ≤ q) [] := hD
  refine tI (y := (F_rout)) hw ?_
  refine lv_icmp_eq (tgt := 1413) hx hb dL_law_1099 (by decide) (fun _ => ?_) (fun c0 => absurd rfl c0)
  exact fin _ _ _ hS hl
set_option maxHeartbeats 4000000 in
set_option maxRecDepth 100000 in
theorem law_36 {p : Program} {l : Launch} {e : Env} {s : State} {m : MethodId} {below : List Frame} {meth : Method} {c : Code} {dC : Nat → ClassId} {dI : Nat → Nat → Nat} {cy : Nat → ClassId} {b : Nat} {xs : Nat → Int32} {Q : State → Prop} (hx : p.tables.exec = Jvm.exec) (hb : c.code = code) (hml : c.maxLocals = 4) (hown : s.vm.findClass RL = some m.cls) (hts : ∀ w ∈ BIG, w.before #[Value.ref b] s = true) (hE : ENV (dC, dI) cy s) (hX : va_X b 6 xs s s.heap) (hbl : b < s.heap.size) {x0 y0 : Nat} {x r : Nat → Nat} {H : Heap} {locs : List Loc} {ls : Array Slot} (hP : va_P (dC, dI) vwCl (LW cy x0 y0 x r) H) (hD : va_D (fun q : Nat => s.heap.size ≤ q) (LW cy x0 y0 x r)) (hS : va_S (fun q : Nat => s.heap.size ≤ q) s.heap H locs) (hl : lv_has ls 4 [(3, .int 0), (2, .ref y0), (1, .ref x0), (0, .ref b)]) (fin : ∀ (H : Heap) (locs : List Loc) (ls : Array Slot), va_S (fun q : Nat => s.heap.size ≤ q) s.heap H locs → lv_has ls 4 [(3, .int 0), (2, .ref y0), (1, .ref x0), (0, .ref b)] → W p l e room_1 s m #[Value.ref b] below meth c H locs 81 11738 Q (F0 m 1413 ls [])) : W p l e room_1 s m #[Value.ref b] below meth c H locs 81 11738 Q (F0 m 1104 ls []) := by
  have hA : ∀ q : Nat, s.heap.size ≤ q → (fun q : Nat => s.heap.size ≤ q) q := fun _ h => h
  have hbA : ¬ (fun q : Nat => s.heap.size ≤ q) b := Nat.not_le.mpr hbl
  have hP := hP.sub (ws' := [(x0, .inr (10, [.ref (x 0), .ref (x 2), .ref (x 26), .ref (x 21), .ref (x 20), .ref (x 25), .ref (x 29), .ref (x 31), .ref (x 35), .int 0])), ((x 26), .inr (7, [.ref (x 13), .ref (x 14), .ref (x 15), .int 0, .int 0, .int 10, .int 150, .int 2, .int 0, .int 0])), (y0, .inr (11, mFs r mv0))]) [0, 27, 42] rfl
  have hD := hD.sub (ws' := [(x0, .inr (10, [.ref (x 0), .ref (x 2), .ref (x 26), .ref (x 21), .ref (x 20), .ref (x 25), .ref (x 29), .ref (x 31), .ref (x 35), .int 0])), ((x 26), .inr (7, [.ref (x 13), .ref (x 14), .ref (x 15), .int 0, .int 0, .int 10, .int 150, .int 2, .int 0, .int 0])), (y0, .inr (11, mFs r mv0))]) [0, 27, 42] (by decide) rfl
  refine lv_aload_n hx hb dL_law_1104 rfl (lv_at hl 2 rfl) ?_
  refine lv_aload_n hx hb dL_law_1105 rfl (lv_at hl 3 rfl) ?_
  refine lv_iload_n hx hb dL_law_1106 rfl (lv_at hl 0 rfl) ?_
  refine lv_iconst (v := 1) hx hb dL_law_1107 (by decide) ?_
  refine lv_iadd hx hb dL_law_1108 ?_
  refine tI (y := 1) (by decide) ?_
  refine va_sld hx hb hX hbl hbA hS (vp_in_nI (n := 1) (by decide) (by decide)) dL_law_1109 ?_
  refine tI (y := xs 1) (congrArg xs (nI_clamp (n := 1) (by decide))) ?_
  refine lv_aload_n hx hb dL_law_1110 rfl (lv_at hl 3 rfl) ?_
  refine lv_iload_n hx hb dL_law_1111 rfl (lv_at hl 0 rfl) ?_
  refine lv_iconst (v := 2) hx hb dL_law_1112 (by decide) ?_
  refine lv_iadd hx hb dL_law_1113 ?_
  refine tI (y := 2) (by decide) ?_
  refine va_sld hx hb hX hbl hbA hS (vp_in_nI (n := 2) (by decide) (by decide)) dL_law_1114 ?_
  refine tI (y := xs 2) (congrArg xs (nI_clamp (n := 2) (by decide))) ?_
  refine caVi (n := 2) (wr := [(y0, .inr (11, mFs r mv0))]) (rest := []) hx hb hml hown hts hE hP hD hS hA (cnX10_odds_1 l dC dI cy x0 (x 26) (x 0) (x 2) (x 21) (x 20) (x 25) (x 29) (x 31) (x 35) (x 13) (x 14) (x 15) (xs 1) (xs 2)) k_1207 k_1208 k_1209 k_101 k_1210 (by decide +kernel) ⟨Nat.le_of_ble_eq_true rfl, Nat.le_of_ble_eq_true rfl⟩ [0, 1] [2] rfl rfl rfl (by decide) (by decide) (by decide) 0 10 rfl rfl rfl hl.1 rfl (Nat.le_of_ble_eq_true rfl) dL_law_1115 ⟨Nat.le_of_ble_eq_true rfl, Nat.le_of_ble_eq_true rfl⟩ (fun rr u H locs hw hP hD hS => ?_)
  have hP : va_P (dC, dI) vwCl [(y0, .inr (11, mFs r mv0))] H := hP
  have hD : va_D (fun q : Nat => s.heap.size ≤ q) [(y0, .inr (11, mFs r mv0))] := hD
  refine tI (y := (F_odds (xs 1) (xs 2))) hw ?_
  refine lv_aload_n hx hb dL_law_1118 rfl (lv_at hl 1 rfl) ?_
  refine lv_aload_n hx hb dL_law_1119 rfl (lv_at hl 3 rfl) ?_
  refine lv_iload_n hx hb dL_law_1120 rfl (lv_at hl 0 rfl) ?_
  refine lv_iconst (v := 1) hx hb dL_law_1121 (by decide) ?_
  refine lv_iadd hx hb dL_law_1122 ?_
  refine tI (y := 1) (by decide) ?_
  refine va_sld hx hb hX hbl hbA hS (vp_in_nI (n := 1) (by decide) (by decide)) dL_law_1123 ?_
  refine tI (y := xs 1) (congrArg xs (nI_clamp (n := 1) (by decide))) ?_
  refine lv_aload_n hx hb dL_law_1124 rfl (lv_at hl 3 rfl) ?_
  refine lv_iload_n hx hb dL_law_1125 rfl (lv_at hl 0 rfl) ?_
  refine lv_iconst (v := 2) hx hb dL_law_1126 (by decide) ?_
  refine lv_iadd hx hb dL_law_1127 ?_
  refine tI (y := 2) (by decide) ?_
  refine va_sld hx hb hX hbl hbA hS (vp_in_nI (n := 2) (by decide) (by decide)) dL_law_1128 ?_
  refine tI (y := xs 2) (congrArg xs (nI_clamp (n := 2) (by decide))) ?_
  refine caVi (n := 2) (wr := []) (rest := [.int (F_odds (xs 1) (xs 2))]) hx hb hml hown hts hE hP hD hS hA (cnX11_odds_1 l dC dI cy y0 r (xs 1) (xs 2)) k_1996 k_1997 k_1998 k_114 k_1999 (by decide +kernel) ⟨Nat.le_of_ble_eq_true rfl, Nat.le_of_ble_eq_true rfl⟩ [0] [] rfl rfl rfl (by decide) (by decide) (by decide) 0 11 rfl rfl rfl hl.1 rfl (Nat.le_of_ble_eq_true rfl) dL_law_1129 ⟨Nat.le_of_ble_eq_true rfl, Nat.le_of_ble_eq_true rfl⟩ (fun rr u H locs hw hP hD hS => ?_)
  have hP : va_P (dC, dI) vwCl [] H := hP
  have hD : va_D (fun q : Nat => s.heap.size ≤ q) [] := hD
  refine tI (y := (F_odds (xs 1) (xs 2))) hw ?_
  refine lv_icmp_eq (tgt := 1413) hx hb dL_law_1132 (by decide) (fun _ => ?_) (fun c0 => absurd rfl c0)
  exact fin _ _ _ hS hl
set_option maxHeartbeats 4000000 in
set_option maxRecDepth 100000 in
theorem law_37 {p : Program} {l : Launch} {e : Env} {s : State} {m : MethodId} {below : List Frame} {meth : Method} {c : Code} {dC : Nat → ClassId} {dI : Nat → Nat → Nat} {cy : Nat → ClassId} {b : Nat} {xs : Nat → Int32} {Q : State → Prop} (hx : p.tables.exec = Jvm.exec) (hb : c.code = code) (hml : c.maxLocals = 4) (hown : s.vm.findClass RL = some m.cls) (hts : ∀ w ∈ BIG, w.before #[Value.ref b] s = true) (hE : ENV (dC, dI) cy s) (hX : va_X b 6 xs s s.heap) (hbl : b < s.heap.size) {x0 y0 : Nat} {x r : Nat → Nat} {H : Heap} {locs : List Loc} {ls : Array Slot} (hP : va_P (dC, dI) vwCl (LW cy x0 y0 x r) H) (hD : va_D (fun q : Nat => s.heap.size ≤ q) (LW cy x0 y0 x r)) (hS : va_S (fun q : Nat => s.heap.size ≤ q) s.heap H locs) (hl : lv_has ls 4 [(3, .int 0), (2, .ref y0), (1, .ref x0), (0, .ref b)]) (fin : ∀ (H : Heap) (locs : List Loc) (ls : Array Slot), va_S (fun q : Nat => s.heap.size ≤ q) s.heap H locs → lv_has ls 4 [(3, .int 0), (2, .ref y0), (1, .ref x0), (0, .ref b)] → W p l e room_1 s m #[Value.ref b] below meth c H locs 81 11738 Q (F0 m 1413 ls [])) : W p l e room_1 s m #[Value.ref b] below meth c H locs 81 11738 Q (F0 m 1137 ls []) := by
  have hA : ∀ q : Nat, s.heap.size ≤ q → (fun q : Nat => s.heap.size ≤ q) q := fun _ h => h
  have hbA : ¬ (fun q : Nat => s.heap.size ≤ q) b := Nat.not_le.mpr hbl
  have hP := hP.sub (ws' := [(x0, .inr (10, [.ref (x 0), .ref (x 2), .ref (x 26), .ref (x 21), .ref (x 20), .ref (x 25), .ref (x 29), .ref (x 31), .ref (x 35), .int 0])), ((x 31), .inr (0, [.ref (x 26), .ref (x 21), .ref (x 32), .int 0, .ref (x 33), .ref (x 34), .int 0, .int 0])), (y0, .inr (11, mFs r mv0))]) [0, 32, 42] rfl
  have hD := hD.sub (ws' := [(x0, .inr (10, [.ref (x 0), .ref (x 2), .ref (x 26), .ref (x 21), .ref (x 20), .ref (x 25), .ref (x 29), .ref (x 31), .ref (x 35), .int 0])), ((x 31), .inr (0, [.ref (x 26), .ref (x 21), .ref (x 32), .int 0, .ref (x 33), .ref (x 34), .int 0, .int 0])), (y0, .inr (11, mFs r mv0))]) [0, 32, 42] (by decide) rfl
  refine lv_aload_n hx hb dL_law_1137 rfl (lv_at hl 2 rfl) ?_
  refine lv_aload_n hx hb dL_law_1138 rfl (lv_at hl 3 rfl) ?_
  refine lv_iload_n hx hb dL_law_1139 rfl (lv_at hl 0 rfl) ?_
  refine lv_iconst (v := 1) hx hb dL_law_1140 (by decide) ?_
  refine lv_iadd hx hb dL_law_1141 ?_
  refine tI (y := 1) (by decide) ?_
  refine va_sld hx hb hX hbl hbA hS (vp_in_nI (n := 1) (by decide) (by decide)) dL_law_1142 ?_
  refine tI (y := xs 1) (congrArg xs (nI_clamp (n := 1) (by decide))) ?_
  refine caVi (n := 1) (wr := [(y0, .inr (11, mFs r mv0))]) (rest := []) hx hb hml hown hts hE hP hD hS hA (cnX10_lies_1 l dC dI cy x0 (x 31) (x 0) (x 2) (x 26) (x 21) (x 20) (x 25) (x 29) (x 35) (x 32) (x 33) (x 34) (xs 1)) k_1214 k_1215 k_1216 k_101 k_1217 (by decide +kernel) ⟨Nat.le_of_ble_eq_true rfl, Nat.le_of_ble_eq_true rfl⟩ [0, 1] [2] rfl rfl rfl (by decide) (by decide) (by decide) 0 10 rfl rfl rfl hl.1 rfl (Nat.le_of_ble_eq_true rfl) dL_law_1143 ⟨Nat.le_of_ble_eq_true rfl, Nat.le_of_ble_eq_true rfl⟩ (fun rr u H locs hw hP hD hS => ?_)
  have hP : va_P (dC, dI) vwCl [(y0, .inr (11, mFs r mv0))] H := hP
  have hD : va_D (fun q : Nat => s.heap.size ≤ q) [(y0, .inr (11, mFs r mv0))] := hD
  refine tI (y := (F_lies (xs 1))) hw ?_
  refine lv_aload_n hx hb dL_law_1146 rfl (lv_at hl 1 rfl) ?_
  refine lv_aload_n hx hb dL_law_1147 rfl (lv_at hl 3 rfl) ?_
  refine lv_iload_n hx hb dL_law_1148 rfl (lv_at hl 0 rfl) ?_
  refine lv_iconst (v := 1) hx hb dL_law_1149 (by decide) ?_
  refine lv_iadd hx hb dL_law_1150 ?_
  refine tI (y := 1) (by decide) ?_
  refine va_sld hx hb hX hbl hbA hS (vp_in_nI (n := 1) (by decide) (by decide)) dL_law_1151 ?_
  refine tI (y := xs 1) (congrArg xs (nI_clamp (n := 1) (by decide))) ?_
  refine caVi (n := 1) (wr := []) (rest := [.int (F_lies (xs 1))]) hx hb hml hown hts hE hP hD hS hA (cnX11_lies_1 l dC dI cy y0 r (xs 1)) k_2003 k_2004 k_2005 k_114 k_2006 (by decide +kernel) ⟨Nat.le_of_ble_eq_true rfl, Nat.le_of_ble_eq_true rfl⟩ [0] [] rfl rfl rfl (by decide) (by decide) (by decide) 0 11 rfl rfl rfl hl.1 rfl (Nat.le_of_ble_eq_true rfl) dL_law_1152 ⟨Nat.le_of_ble_eq_true rfl, Nat.le_of_ble_eq_true rfl⟩ (fun rr u H locs hw hP hD hS => ?_)
  have hP : va_P (dC, dI) vwCl [] H := hP
  have hD : va_D (fun q : Nat => s.heap.size ≤ q) [] := hD
  refine tI (y := (F_lies (xs 1))) hw ?_
  refine lv_icmp_eq (tgt := 1413) hx hb dL_law_1155 (by decide) (fun _ => ?_) (fun c0 => absurd rfl c0)
  exact fin _ _ _ hS hl
set_option maxHeartbeats 4000000 in
set_option maxRecDepth 100000 in
theorem law_38 {p : Program} {l : Launch} {e : Env} {s : State} {m : MethodId} {below : List Frame} {meth : Method} {c : Code} {dC : Nat → ClassId} {dI : Nat → Nat → Nat} {cy : Nat → ClassId} {b : Nat} {xs : Nat → Int32} {Q : State → Prop} (hx : p.tables.exec = Jvm.exec) (hb : c.code = code) (hml : c.maxLocals = 4) (hown : s.vm.findClass RL = some m.cls) (hts : ∀ w ∈ BIG, w.before #[Value.ref b] s = true) (hE : ENV (dC, dI) cy s) (hX : va_X b 6 xs s s.heap) (hbl : b < s.heap.size) {x0 y0 : Nat} {x r : Nat → Nat} {H : Heap} {locs : List Loc} {ls : Array Slot} (hP : va_P (dC, dI) vwCl (LW cy x0 y0 x r) H) (hD : va_D (fun q : Nat => s.heap.size ≤ q) (LW cy x0 y0 x r)) (hS : va_S (fun q : Nat => s.heap.size ≤ q) s.heap H locs) (hl : lv_has ls 4 [(3, .int 0), (2, .ref y0), (1, .ref x0), (0, .ref b)]) (fin : ∀ (H : Heap) (locs : List Loc) (ls : Array Slot), va_S (fun q : Nat => s.heap.size ≤ q) s.heap H locs → lv_has ls 4 [(3, .int 0), (2, .ref y0), (1, .ref x0), (0, .ref b)] → W p l e room_1 s m #[Value.ref b] below meth c H locs 81 11738 Q (F0 m 1413 ls [])) : W p l e room_1 s m #[Value.ref b] below meth c H locs 81 11738 Q (F0 m 1160 ls []) := by
  have hA : ∀ q : Nat, s.heap.size ≤ q → (fun q : Nat => s.heap.size ≤ q) q := fun _ h => h
  have hbA : ¬ (fun q : Nat => s.heap.size ≤ q) b := Nat.not_le.mpr hbl
  have hP := hP.sub (ws' := [(x0, .inr (10, [.ref (x 0), .ref (x 2), .ref (x 26), .ref (x 21), .ref (x 20), .ref (x 25), .ref (x 29), .ref (x 31), .ref (x 35), .int 0])), ((x 26), .inr (7, [.ref (x 13), .ref (x 14), .ref (x 15), .int 0, .int 0, .int 10, .int 150, .int 2, .int 0, .int 0])), (y0, .inr (11, mFs r mv0))]) [0, 27, 42] rfl
  have hD := hD.sub (ws' := [(x0, .inr (10, [.ref (x 0), .ref (x 2), .ref (x 26), .ref (x 21), .ref (x 20), .ref (x 25), .ref (x 29), .ref (x 31), .ref (x 35), .int 0])), ((x 26), .inr (7, [.ref (x 13), .ref (x 14), .ref (x 15), .int 0, .int 0, .int 10, .int 150, .int 2, .int 0, .int 0])), (y0, .inr (11, mFs r mv0))]) [0, 27, 42] (by decide) rfl
  refine lv_aload_n hx hb dL_law_1160 rfl (lv_at hl 2 rfl) ?_
  refine lv_aload_n hx hb dL_law_1161 rfl (lv_at hl 3 rfl) ?_
  refine lv_iload_n hx hb dL_law_1162 rfl (lv_at hl 0 rfl) ?_
  refine lv_iconst (v := 1) hx hb dL_law_1163 (by decide) ?_
  refine lv_iadd hx hb dL_law_1164 ?_
  refine tI (y := 1) (by decide) ?_
  refine va_sld hx hb hX hbl hbA hS (vp_in_nI (n := 1) (by decide) (by decide)) dL_law_1165 ?_
  refine tI (y := xs 1) (congrArg xs (nI_clamp (n := 1) (by decide))) ?_
  refine lv_aload_n hx hb dL_law_1166 rfl (lv_at hl 3 rfl) ?_
  refine lv_iload_n hx hb dL_law_1167 rfl (lv_at hl 0 rfl) ?_
  refine lv_iconst (v := 2) hx hb dL_law_1168 (by decide) ?_
  refine lv_iadd hx hb dL_law_1169 ?_
  refine tI (y := 2) (by decide) ?_
  refine va_sld hx hb hX hbl hbA hS (vp_in_nI (n := 2) (by decide) (by decide)) dL_law_1170 ?_
  refine tI (y := xs 2) (congrArg xs (nI_clamp (n := 2) (by decide))) ?_
  refine lv_if_eq (tgt := 1178) hx hb dL_law_1171 (by decide) (fun c1 => ?_) (fun c1 => ?_)
  · skip
    refine lv_iconst (v := 0) hx hb dL_law_1178 (by decide) ?_
    refine caVi (n := 2) (wr := [(y0, .inr (11, mFs r mv0))]) (rest := []) hx hb hml hown hts hE hP hD hS hA (cnX10_seen_1 l dC dI cy x0 (x 26) (x 0) (x 2) (x 21) (x 20) (x 25) (x 29) (x 31) (x 35) (x 13) (x 14) (x 15) (xs 1) 0) k_1222 k_1223 k_1224 k_101 k_1225 (by decide +kernel) ⟨Nat.le_of_ble_eq_true rfl, Nat.le_of_ble_eq_true rfl⟩ [0, 1] [2] rfl rfl rfl (by decide) (by decide) (by decide) 0 10 rfl rfl rfl hl.1 rfl (Nat.le_of_ble_eq_true rfl) dL_law_1179 ⟨Nat.le_of_ble_eq_true rfl, Nat.le_of_ble_eq_true rfl⟩ (fun rr u H locs hw hP hD hS => ?_)
    have hP : va_P (dC, dI) vwCl [(y0, .inr (11, mFs r mv0))] H := hP
    have hD : va_D (fun q : Nat => s.heap.size ≤ q) [(y0, .inr (11, mFs r mv0))] := hD
    refine tI (y := (F_seen (xs 1) 0)) hw ?_
    refine lv_aload_n hx hb dL_law_1182 rfl (lv_at hl 1 rfl) ?_
    refine lv_aload_n hx hb dL_law_1183 rfl (lv_at hl 3 rfl) ?_
    refine lv_iload_n hx hb dL_law_1184 rfl (lv_at hl 0 rfl) ?_
    refine lv_iconst (v := 1) hx hb dL_law_1185 (by decide) ?_
    refine lv_iadd hx hb dL_law_1186 ?_
    refine tI (y := 1) (by decide) ?_
    refine va_sld hx hb hX hbl hbA hS (vp_in_nI (n := 1) (by decide) (by decide)) dL_law_1187 ?_
    refine tI (y := xs 1) (congrArg xs (nI_clamp (n := 1) (by decide))) ?_
    refine lv_aload_n hx hb dL_law_1188 rfl (lv_at hl 3 rfl) ?_
    refine lv_iload_n hx hb dL_law_1189 rfl (lv_at hl 0 rfl) ?_
    refine lv_iconst (v := 2) hx hb dL_law_1190 (by decide) ?_
    refine lv_iadd hx hb dL_law_1191 ?_
    refine tI (y := 2) (by decide) ?_
    refine va_sld hx hb hX hbl hbA hS (vp_in_nI (n := 2) (by decide) (by decide)) dL_law_1192 ?_
    refine tI (y := xs 2) (congrArg xs (nI_clamp (n := 2) (by decide))) ?_
    refine lv_if_eq (tgt := 1200) hx hb dL_law_1193 (by decide) (fun _ => ?_) (fun c0 => absurd c1 c0)
    refine lv_iconst (v := 0) hx hb dL_law_1200 (by decide) ?_
    refine caVi (n := 2) (wr := []) (rest := [.int (F_seen (xs 1) 0)]) hx hb hml hown hts hE hP hD hS hA (cnX11_seen_1 l dC dI cy y0 r (xs 1) 0) k_2007 k_2008 k_2009 k_114 k_2010 (by decide +kernel) ⟨Nat.le_of_ble_eq_true rfl, Nat.le_of_ble_eq_true rfl⟩ [0] [] rfl rfl rfl (by decide) (by decide) (by decide) 0 11 rfl rfl rfl hl.1 rfl (Nat.le_of_ble_eq_true rfl) dL_law_1201 ⟨Nat.le_of_ble_eq_true rfl, Nat.le_of_ble_eq_true rfl⟩ (fun rr u H locs hw hP hD hS => ?_)
    have hP : va_P (dC, dI) vwCl [] H := hP
    have hD : va_D (fun q : Nat => s.heap.size ≤ q) [] := hD
    refine tI (y := (F_seen (xs 1) 0)) hw ?_
    refine lv_icmp_eq (tgt := 1413) hx hb dL_law_1204 (by decide) (fun _ => ?_) (fun c0 => absurd rfl c0)
    exact fin _ _ _ hS hl
  · skip
    refine lv_iconst (v := 1) hx hb dL_law_1174 (by decide) ?_
    refine lv_goto (tgt := 1179) hx hb dL_law_1175 (by decide) ?_
    refine caVi (n := 2) (wr := [(y0, .inr (11, mFs r mv0))]) (rest := []) hx hb hml hown hts hE hP hD hS hA (cnX10_seen_1 l dC dI cy x0 (x 26) (x 0) (x 2) (x 21) (x 20) (x 25) (x 29) (x 31) (x 35) (x 13) (x 14) (x 15) (xs 1) 1) k_1222 k_1223 k_1224 k_101 k_1225 (by decide +kernel) ⟨Nat.le_of_ble_eq_true rfl, Nat.le_of_ble_eq_true rfl⟩ [0, 1] [2] rfl rfl rfl (by decide) (by decide) (by decide) 0 10 rfl rfl rfl hl.1 rfl (Nat.le_of_ble_eq_true rfl) dL_law_1179 ⟨Nat.le_of_ble_eq_true rfl, Nat.le_of_ble_eq_true rfl⟩ (fun rr u H locs hw hP hD hS => ?_)
    have hP : va_P (dC, dI) vwCl [(y0, .inr (11, mFs r mv0))] H := hP
    have hD : va_D (fun q : Nat => s.heap.size ≤ q) [(y0, .inr (11, mFs r mv0))] := hD
    refine tI (y := (F_seen (xs 1) 1)) hw ?_
    refine lv_aload_n hx hb dL_law_1182 rfl (lv_at hl 1 rfl) ?_
    refine lv_aload_n hx hb dL_law_1183 rfl (lv_at hl 3 rfl) ?_
    refine lv_iload_n hx hb dL_law_1184 rfl (lv_at hl 0 rfl) ?_
    refine lv_iconst (v := 1) hx hb dL_law_1185 (by decide) ?_
    refine lv_iadd hx hb dL_law_1186 ?_
    refine tI (y := 1) (by decide) ?_
    refine va_sld hx hb hX hbl hbA hS (vp_in_nI (n := 1) (by decide) (by decide)) dL_law_1187 ?_
    refine tI (y := xs 1) (congrArg xs (nI_clamp (n := 1) (by decide))) ?_
    refine lv_aload_n hx hb dL_law_1188 rfl (lv_at hl 3 rfl) ?_
    refine lv_iload_n hx hb dL_law_1189 rfl (lv_at hl 0 rfl) ?_
    refine lv_iconst (v := 2) hx hb dL_law_1190 (by decide) ?_
    refine lv_iadd hx hb dL_law_1191 ?_
    refine tI (y := 2) (by decide) ?_
    refine va_sld hx hb hX hbl hbA hS (vp_in_nI (n := 2) (by decide) (by decide)) dL_law_1192 ?_
    refine tI (y := xs 2) (congrArg xs (nI_clamp (n := 2) (by decide))) ?_
    refine lv_if_eq (tgt := 1200) hx hb dL_law_1193 (by decide) (fun c0 => absurd c0 c1) (fun _ => ?_)
    refine lv_iconst (v := 1) hx hb dL_law_1196 (by decide) ?_
    refine lv_goto (tgt := 1201) hx hb dL_law_1197 (by decide) ?_
    refine caVi (n := 2) (wr := []) (rest := [.int (F_seen (xs 1) 1)]) hx hb hml hown hts hE hP hD hS hA (cnX11_seen_1 l dC dI cy y0 r (xs 1) 1) k_2007 k_2008 k_2009 k_114 k_2010 (by decide +kernel) ⟨Nat.le_of_ble_eq_true rfl, Nat.le_of_ble_eq_true rfl⟩ [0] [] rfl rfl rfl (by decide) (by decide) (by decide) 0 11 rfl rfl rfl hl.1 rfl (Nat.le_of_ble_eq_true rfl) dL_law_1201 ⟨Nat.le_of_ble_eq_true rfl, Nat.le_of_ble_eq_true rfl⟩ (fun rr u H locs hw hP hD hS => ?_)
    have hP : va_P (dC, dI) vwCl [] H := hP
    have hD : va_D (fun q : Nat => s.heap.size ≤ q) [] := hD
    refine tI (y := (F_seen (xs 1) 1)) hw ?_
    refine lv_icmp_eq (tgt := 1413) hx hb dL_law_1204 (by decide) (fun _ => ?_) (fun c0 => absurd rfl c0)
    exact fin _ _ _ hS hl
set_option maxHeartbeats 4000000 in
set_option maxRecDepth 100000 in
theorem law_39 {p : Program} {l : Launch} {e : Env} {s : State} {m : MethodId} {below : List Frame} {meth : Method} {c : Code} {dC : Nat → ClassId} {dI : Nat → Nat → Nat} {cy : Nat → ClassId} {b : Nat} {xs : Nat → Int32} {Q : State → Prop} (hx : p.tables.exec = Jvm.exec) (hb : c.code = code) (hml : c.maxLocals = 4) (hown : s.vm.findClass RL = some m.cls) (hts : ∀ w ∈ BIG, w.before #[Value.ref b] s = true) (hE : ENV (dC, dI) cy s) (hX : va_X b 6 xs s s.heap) (hbl : b < s.heap.size) {x0 y0 : Nat} {x r : Nat → Nat} {H : Heap} {locs : List Loc} {ls : Array Slot} (hP : va_P (dC, dI) vwCl (LW cy x0 y0 x r) H) (hD : va_D (fun q : Nat => s.heap.size ≤ q) (LW cy x0 y0 x r)) (hS : va_S (fun q : Nat => s.heap.size ≤ q) s.heap H locs) (hl : lv_has ls 4 [(3, .int 0), (2, .ref y0), (1, .ref x0), (0, .ref b)]) (fin : ∀ (H : Heap) (locs : List Loc) (ls : Array Slot), va_S (fun q : Nat => s.heap.size ≤ q) s.heap H locs → lv_has ls 4 [(3, .int 0), (2, .ref y0), (1, .ref x0), (0, .ref b)] → W p l e room_1 s m #[Value.ref b] below meth c H locs 81 11738 Q (F0 m 1413 ls [])) : W p l e room_1 s m #[Value.ref b] below meth c H locs 81 11738 Q (F0 m 1209 ls []) := by
  have hA : ∀ q : Nat, s.heap.size ≤ q → (fun q : Nat => s.heap.size ≤ q) q := fun _ h => h
  have hbA : ¬ (fun q : Nat => s.heap.size ≤ q) b := Nat.not_le.mpr hbl
  have hP := hP.sub (ws' := [(x0, .inr (10, [.ref (x 0), .ref (x 2), .ref (x 26), .ref (x 21), .ref (x 20), .ref (x 25), .ref (x 29), .ref (x 31), .ref (x 35), .int 0])), ((x 35), .inr (8, [.ref (x 26), .ref (x 36), .ref (x 37), .ref (x 38), .ref (x 39), .int 0, .ref (x 40)])), (y0, .inr (11, mFs r mv0))]) [0, 36, 42] rfl
  have hD := hD.sub (ws' := [(x0, .inr (10, [.ref (x 0), .ref (x 2), .ref (x 26), .ref (x 21), .ref (x 20), .ref (x 25), .ref (x 29), .ref (x 31), .ref (x 35), .int 0])), ((x 35), .inr (8, [.ref (x 26), .ref (x 36), .ref (x 37), .ref (x 38), .ref (x 39), .int 0, .ref (x 40)])), (y0, .inr (11, mFs r mv0))]) [0, 36, 42] (by decide) rfl
  refine lv_aload_n hx hb dL_law_1209 rfl (lv_at hl 2 rfl) ?_
  refine lv_aload_n hx hb dL_law_1210 rfl (lv_at hl 3 rfl) ?_
  refine lv_iload_n hx hb dL_law_1211 rfl (lv_at hl 0 rfl) ?_
  refine lv_iconst (v := 1) hx hb dL_law_1212 (by decide) ?_
  refine lv_iadd hx hb dL_law_1213 ?_
  refine tI (y := 1) (by decide) ?_
  refine va_sld hx hb hX hbl hbA hS (vp_in_nI (n := 1) (by decide) (by decide)) dL_law_1214 ?_
  refine tI (y := xs 1) (congrArg xs (nI_clamp (n := 1) (by decide))) ?_
  refine caVi (n := 1) (wr := [(y0, .inr (11, mFs r mv0))]) (rest := []) hx hb hml hown hts hE hP hD hS hA (cnX10_untell_1 l dC dI cy x0 (x 35) (x 0) (x 2) (x 26) (x 21) (x 20) (x 25) (x 29) (x 31) (x 36) (x 37) (x 38) (x 39) (x 40) (xs 1)) k_1230 k_1231 k_1232 k_101 k_1233 (by decide +kernel) ⟨Nat.le_of_ble_eq_true rfl, Nat.le_of_ble_eq_true rfl⟩ [0, 1] [2] rfl rfl rfl (by decide) (by decide) (by decide) 0 10 rfl rfl rfl hl.1 rfl (Nat.le_of_ble_eq_true rfl) dL_law_1215 ⟨Nat.le_of_ble_eq_true rfl, Nat.le_of_ble_eq_true rfl⟩ (fun rr u H locs hw hP hD hS => ?_)
  have hP : va_P (dC, dI) vwCl [(y0, .inr (11, mFs r mv0))] H := hP
  have hD : va_D (fun q : Nat => s.heap.size ≤ q) [(y0, .inr (11, mFs r mv0))] := hD
  refine tI (y := (F_untell (xs 1))) hw ?_
  refine lv_aload_n hx hb dL_law_1218 rfl (lv_at hl 1 rfl) ?_
  refine lv_aload_n hx hb dL_law_1219 rfl (lv_at hl 3 rfl) ?_
  refine lv_iload_n hx hb dL_law_1220 rfl (lv_at hl 0 rfl) ?_
  refine lv_iconst (v := 1) hx hb dL_law_1221 (by decide) ?_
  refine lv_iadd hx hb dL_law_1222 ?_
  refine tI (y := 1) (by decide) ?_
  refine va_sld hx hb hX hbl hbA hS (vp_in_nI (n := 1) (by decide) (by decide)) dL_law_1223 ?_
  refine tI (y := xs 1) (congrArg xs (nI_clamp (n := 1) (by decide))) ?_
  refine caVi (n := 1) (wr := []) (rest := [.int (F_untell (xs 1))]) hx hb hml hown hts hE hP hD hS hA (cnX11_untell_1 l dC dI cy y0 r (xs 1)) k_2011 k_2012 k_2013 k_114 k_2014 (by decide +kernel) ⟨Nat.le_of_ble_eq_true rfl, Nat.le_of_ble_eq_true rfl⟩ [0] [] rfl rfl rfl (by decide) (by decide) (by decide) 0 11 rfl rfl rfl hl.1 rfl (Nat.le_of_ble_eq_true rfl) dL_law_1224 ⟨Nat.le_of_ble_eq_true rfl, Nat.le_of_ble_eq_true rfl⟩ (fun rr u H locs hw hP hD hS => ?_)
  have hP : va_P (dC, dI) vwCl [] H := hP
  have hD : va_D (fun q : Nat => s.heap.size ≤ q) [] := hD
  refine tI (y := (F_untell (xs 1))) hw ?_
  refine lv_icmp_eq (tgt := 1413) hx hb dL_law_1227 (by decide) (fun _ => ?_) (fun c0 => absurd rfl c0)
  exact fin _ _ _ hS hl
set_option maxHeartbeats 4000000 in
set_option maxRecDepth 100000 in
theorem law_40 {p : Program} {l : Launch} {e : Env} {s : State} {m : MethodId} {below : List Frame} {meth : Method} {c : Code} {dC : Nat → ClassId} {dI : Nat → Nat → Nat} {cy : Nat → ClassId} {b : Nat} {xs : Nat → Int32} {Q : State → Prop} (hx : p.tables.exec = Jvm.exec) (hb : c.code = code) (hml : c.maxLocals = 4) (hown : s.vm.findClass RL = some m.cls) (hts : ∀ w ∈ BIG, w.before #[Value.ref b] s = true) (hE : ENV (dC, dI) cy s) (hX : va_X b 6 xs s s.heap) (hbl : b < s.heap.size) {x0 y0 : Nat} {x r : Nat → Nat} {H : Heap} {locs : List Loc} {ls : Array Slot} (hP : va_P (dC, dI) vwCl (LW cy x0 y0 x r) H) (hD : va_D (fun q : Nat => s.heap.size ≤ q) (LW cy x0 y0 x r)) (hS : va_S (fun q : Nat => s.heap.size ≤ q) s.heap H locs) (hl : lv_has ls 4 [(3, .int 0), (2, .ref y0), (1, .ref x0), (0, .ref b)]) (fin : ∀ (H : Heap) (locs : List Loc) (ls : Array Slot), va_S (fun q : Nat => s.heap.size ≤ q) s.heap H locs → lv_has ls 4 [(3, .int 0), (2, .ref y0), (1, .ref x0), (0, .ref b)] → W p l e room_1 s m #[Value.ref b] below meth c H locs 81 11738 Q (F0 m 1413 ls [])) : W p l e room_1 s m #[Value.ref b] below meth c H locs 81 11738 Q (F0 m 1232 ls []) := by
  have hA : ∀ q : Nat, s.heap.size ≤ q → (fun q : Nat => s.heap.size ≤ q) q := fun _ h => h
  have hbA : ¬ (fun q : Nat => s.heap.size ≤ q) b := Nat.not_le.mpr hbl
  have hP := hP.sub (ws' := [(x0, .inr (10, [.ref (x 0), .ref (x 2), .ref (x 26), .ref (x 21), .ref (x 20), .ref (x 25), .ref (x 29), .ref (x 31), .ref (x 35), .int 0])), (y0, .inr (11, mFs r mv0))]) [0, 42] rfl
  have hD := hD.sub (ws' := [(x0, .inr (10, [.ref (x 0), .ref (x 2), .ref (x 26), .ref (x 21), .ref (x 20), .ref (x 25), .ref (x 29), .ref (x 31), .ref (x 35), .int 0])), (y0, .inr (11, mFs r mv0))]) [0, 42] (by decide) rfl
  refine lv_aload_n hx hb dL_law_1232 rfl (lv_at hl 2 rfl) ?_
  refine lv_aload_n hx hb dL_law_1233 rfl (lv_at hl 3 rfl) ?_
  refine lv_iload_n hx hb dL_law_1234 rfl (lv_at hl 0 rfl) ?_
  refine lv_iconst (v := 1) hx hb dL_law_1235 (by decide) ?_
  refine lv_iadd hx hb dL_law_1236 ?_
  refine tI (y := 1) (by decide) ?_
  refine va_sld hx hb hX hbl hbA hS (vp_in_nI (n := 1) (by decide) (by decide)) dL_law_1237 ?_
  refine tI (y := xs 1) (congrArg xs (nI_clamp (n := 1) (by decide))) ?_
  refine caVi (n := 1) (wr := [(y0, .inr (11, mFs r mv0))]) (rest := []) hx hb hml hown hts hE hP hD hS hA (cnX10_later_1 l dC dI cy x0 (x 0) (x 2) (x 26) (x 21) (x 20) (x 25) (x 29) (x 31) (x 35) (xs 1)) k_1238 k_1239 k_1240 k_101 k_1241 (by decide +kernel) ⟨Nat.le_of_ble_eq_true rfl, Nat.le_of_ble_eq_true rfl⟩ [0] [1] rfl rfl rfl (by decide) (by decide) (by decide) 0 10 rfl rfl rfl hl.1 rfl (Nat.le_of_ble_eq_true rfl) dL_law_1238 ⟨Nat.le_of_ble_eq_true rfl, Nat.le_of_ble_eq_true rfl⟩ (fun rr u H locs hw hP hD hS => ?_)
  have hP : va_P (dC, dI) vwCl [(y0, .inr (11, mFs r mv0))] H := hP
  have hD : va_D (fun q : Nat => s.heap.size ≤ q) [(y0, .inr (11, mFs r mv0))] := hD
  refine tI (y := (F_later (xs 1))) hw ?_
  refine lv_aload_n hx hb dL_law_1241 rfl (lv_at hl 1 rfl) ?_
  refine lv_aload_n hx hb dL_law_1242 rfl (lv_at hl 3 rfl) ?_
  refine lv_iload_n hx hb dL_law_1243 rfl (lv_at hl 0 rfl) ?_
  refine lv_iconst (v := 1) hx hb dL_law_1244 (by decide) ?_
  refine lv_iadd hx hb dL_law_1245 ?_
  refine tI (y := 1) (by decide) ?_
  refine va_sld hx hb hX hbl hbA hS (vp_in_nI (n := 1) (by decide) (by decide)) dL_law_1246 ?_
  refine tI (y := xs 1) (congrArg xs (nI_clamp (n := 1) (by decide))) ?_
  refine caVi (n := 1) (wr := []) (rest := [.int (F_later (xs 1))]) hx hb hml hown hts hE hP hD hS hA (cnX11_later_1 l dC dI cy y0 r (xs 1)) k_2015 k_2016 k_2017 k_114 k_2018 (by decide +kernel) ⟨Nat.le_of_ble_eq_true rfl, Nat.le_of_ble_eq_true rfl⟩ [0] [] rfl rfl rfl (by decide) (by decide) (by decide) 0 11 rfl rfl rfl hl.1 rfl (Nat.le_of_ble_eq_true rfl) dL_law_1247 ⟨Nat.le_of_ble_eq_true rfl, Nat.le_of_ble_eq_true rfl⟩ (fun rr u H locs hw hP hD hS => ?_)
  have hP : va_P (dC, dI) vwCl [] H := hP
  have hD : va_D (fun q : Nat => s.heap.size ≤ q) [] := hD
  refine tI (y := (F_later (xs 1))) hw ?_
  refine lv_icmp_eq (tgt := 1413) hx hb dL_law_1250 (by decide) (fun _ => ?_) (fun c0 => absurd rfl c0)
  exact fin _ _ _ hS hl
set_option maxHeartbeats 4000000 in
set_option maxRecDepth 100000 in
theorem law_41 {p : Program} {l : Launch} {e : Env} {s : State} {m : MethodId} {below : List Frame} {meth : Method} {c : Code} {dC : Nat → ClassId} {dI : Nat → Nat → Nat} {cy : Nat → ClassId} {b : Nat} {xs : Nat → Int32} {Q : State → Prop} (hx : p.tables.exec = Jvm.exec) (hb : c.code = code) (hml : c.maxLocals = 4) (hown : s.vm.findClass RL = some m.cls) (hts : ∀ w ∈ BIG, w.before #[Value.ref b] s = true) (hE : ENV (dC, dI) cy s) (hX : va_X b 6 xs s s.heap) (hbl : b < s.heap.size) {x0 y0 : Nat} {x r : Nat → Nat} {H : Heap} {locs : List Loc} {ls : Array Slot} (hP : va_P (dC, dI) vwCl (LW cy x0 y0 x r) H) (hD : va_D (fun q : Nat => s.heap.size ≤ q) (LW cy x0 y0 x r)) (hS : va_S (fun q : Nat => s.heap.size ≤ q) s.heap H locs) (hl : lv_has ls 4 [(3, .int 0), (2, .ref y0), (1, .ref x0), (0, .ref b)]) (fin : ∀ (H : Heap) (locs : List Loc) (ls : Array Slot), va_S (fun q : Nat => s.heap.size ≤ q) s.heap H locs → lv_has ls 4 [(3, .int 0), (2, .ref y0), (1, .ref x0), (0, .ref b)] → W p l e room_1 s m #[Value.ref b] below meth c H locs 81 11738 Q (F0 m 1413 ls [])) : W p l e room_1 s m #[Value.ref b] below meth c H locs 81 11738 Q (F0 m 1255 ls []) := by
  have hA : ∀ q : Nat, s.heap.size ≤ q → (fun q : Nat => s.heap.size ≤ q) q := fun _ h => h
  have hbA : ¬ (fun q : Nat => s.heap.size ≤ q) b := Nat.not_le.mpr hbl
  have hP := hP.sub (ws' := [(x0, .inr (10, [.ref (x 0), .ref (x 2), .ref (x 26), .ref (x 21), .ref (x 20), .ref (x 25), .ref (x 29), .ref (x 31), .ref (x 35), .int 0])), ((x 35), .inr (8, [.ref (x 26), .ref (x 36), .ref (x 37), .ref (x 38), .ref (x 39), .int 0, .ref (x 40)])), ((x 26), .inr (7, [.ref (x 13), .ref (x 14), .ref (x 15), .int 0, .int 0, .int 10, .int 150, .int 2, .int 0, .int 0])), (y0, .inr (11, mFs r mv0))]) [0, 36, 27, 42] rfl
  have hD := hD.sub (ws' := [(x0, .inr (10, [.ref (x 0), .ref (x 2), .ref (x 26), .ref (x 21), .ref (x 20), .ref (x 25), .ref (x 29), .ref (x 31), .ref (x 35), .int 0])), ((x 35), .inr (8, [.ref (x 26), .ref (x 36), .ref (x 37), .ref (x 38), .ref (x 39), .int 0, .ref (x 40)])), ((x 26), .inr (7, [.ref (x 13), .ref (x 14), .ref (x 15), .int 0, .int 0, .int 10, .int 150, .int 2, .int 0, .int 0])), (y0, .inr (11, mFs r mv0))]) [0, 36, 27, 42] (by decide) rfl
  refine lv_aload_n hx hb dL_law_1255 rfl (lv_at hl 2 rfl) ?_
  refine lv_aload_n hx hb dL_law_1256 rfl (lv_at hl 3 rfl) ?_
  refine lv_iload_n hx hb dL_law_1257 rfl (lv_at hl 0 rfl) ?_
  refine lv_iconst (v := 1) hx hb dL_law_1258 (by decide) ?_
  refine lv_iadd hx hb dL_law_1259 ?_
  refine tI (y := 1) (by decide) ?_
  refine va_sld hx hb hX hbl hbA hS (vp_in_nI (n := 1) (by decide) (by decide)) dL_law_1260 ?_
  refine tI (y := xs 1) (congrArg xs (nI_clamp (n := 1) (by decide))) ?_
  refine caVi (n := 1) (wr := [(y0, .inr (11, mFs r mv0))]) (rest := []) hx hb hml hown hts hE hP hD hS hA (cnX10_growths_1 l dC dI cy x0 (x 35) (x 26) (x 0) (x 2) (x 21) (x 20) (x 25) (x 29) (x 31) (x 36) (x 37) (x 38) (x 39) (x 40) (x 13) (x 14) (x 15) (xs 1)) k_1243 k_1244 k_1245 k_101 k_1246 (by decide +kernel) ⟨Nat.le_of_ble_eq_true rfl, Nat.le_of_ble_eq_true rfl⟩ [0, 1, 2] [3] rfl rfl rfl (by decide) (by decide) (by decide) 0 10 rfl rfl rfl hl.1 rfl (Nat.le_of_ble_eq_true rfl) dL_law_1261 ⟨Nat.le_of_ble_eq_true rfl, Nat.le_of_ble_eq_true rfl⟩ (fun rr u H locs hw hP hD hS => ?_)
  have hP : va_P (dC, dI) vwCl [(y0, .inr (11, mFs r mv0))] H := hP
  have hD : va_D (fun q : Nat => s.heap.size ≤ q) [(y0, .inr (11, mFs r mv0))] := hD
  refine tI (y := (F_growths (xs 1))) hw ?_
  refine lv_aload_n hx hb dL_law_1264 rfl (lv_at hl 1 rfl) ?_
  refine lv_aload_n hx hb dL_law_1265 rfl (lv_at hl 3 rfl) ?_
  refine lv_iload_n hx hb dL_law_1266 rfl (lv_at hl 0 rfl) ?_
  refine lv_iconst (v := 1) hx hb dL_law_1267 (by decide) ?_
  refine lv_iadd hx hb dL_law_1268 ?_
  refine tI (y := 1) (by decide) ?_
  refine va_sld hx hb hX hbl hbA hS (vp_in_nI (n := 1) (by decide) (by decide)) dL_law_1269 ?_
  refine tI (y := xs 1) (congrArg xs (nI_clamp (n := 1) (by decide))) ?_
  refine caVi (n := 1) (wr := []) (rest := [.int (F_growths (xs 1))]) hx hb hml hown hts hE hP hD hS hA (cnX11_growths_1 l dC dI cy y0 r (xs 1)) k_2020 k_2021 k_2022 k_114 k_2023 (by decide +kernel) ⟨Nat.le_of_ble_eq_true rfl, Nat.le_of_ble_eq_true rfl⟩ [0] [] rfl rfl rfl (by decide) (by decide) (by decide) 0 11 rfl rfl rfl hl.1 rfl (Nat.le_of_ble_eq_true rfl) dL_law_1270 ⟨Nat.le_of_ble_eq_true rfl, Nat.le_of_ble_eq_true rfl⟩ (fun rr u H locs hw hP hD hS => ?_)
  have hP : va_P (dC, dI) vwCl [] H := hP
  have hD : va_D (fun q : Nat => s.heap.size ≤ q) [] := hD
  refine tI (y := (F_growths (xs 1))) hw ?_
  refine lv_icmp_eq (tgt := 1413) hx hb dL_law_1273 (by decide) (fun _ => ?_) (fun c0 => absurd rfl c0)
  exact fin _ _ _ hS hl
set_option maxHeartbeats 4000000 in
set_option maxRecDepth 100000 in
theorem law_42 {p : Program} {l : Launch} {e : Env} {s : State} {m : MethodId} {below : List Frame} {meth : Method} {c : Code} {dC : Nat → ClassId} {dI : Nat → Nat → Nat} {cy : Nat → ClassId} {b : Nat} {xs : Nat → Int32} {Q : State → Prop} (hx : p.tables.exec = Jvm.exec) (hb : c.code = code) (hml : c.maxLocals = 4) (hown : s.vm.findClass RL = some m.cls) (hts : ∀ w ∈ BIG, w.before #[Value.ref b] s = true) (hE : ENV (dC, dI) cy s) (hX : va_X b 6 xs s s.heap) (hbl : b < s.heap.size) {x0 y0 : Nat} {x r : Nat → Nat} {H : Heap} {locs : List Loc} {ls : Array Slot} (hP : va_P (dC, dI) vwCl (LW cy x0 y0 x r) H) (hD : va_D (fun q : Nat => s.heap.size ≤ q) (LW cy x0 y0 x r)) (hS : va_S (fun q : Nat => s.heap.size ≤ q) s.heap H locs) (hl : lv_has ls 4 [(3, .int 0), (2, .ref y0), (1, .ref x0), (0, .ref b)]) (fin : ∀ (H : Heap) (locs : List Loc) (ls : Array Slot), va_S (fun q : Nat => s.heap.size ≤ q) s.heap H locs → lv_has ls 4 [(3, .int 0), (2, .ref y0), (1, .ref x0), (0, .ref b)] → W p l e room_1 s m #[Value.ref b] below meth c H locs 81 11738 Q (F0 m 1413 ls [])) : W p l e room_1 s m #[Value.ref b] below meth c H locs 81 11738 Q (F0 m 1278 ls []) := by
  have hA : ∀ q : Nat, s.heap.size ≤ q → (fun q : Nat => s.heap.size ≤ q) q := fun _ h => h
  have hbA : ¬ (fun q : Nat => s.heap.size ≤ q) b := Nat.not_le.mpr hbl
  have hP := hP.sub (ws' := [(x0, .inr (10, [.ref (x 0), .ref (x 2), .ref (x 26), .ref (x 21), .ref (x 20), .ref (x 25), .ref (x 29), .ref (x 31), .ref (x 35), .int 0])), ((x 35), .inr (8, [.ref (x 26), .ref (x 36), .ref (x 37), .ref (x 38), .ref (x 39), .int 0, .ref (x 40)])), ((x 26), .inr (7, [.ref (x 13), .ref (x 14), .ref (x 15), .int 0, .int 0, .int 10, .int 150, .int 2, .int 0, .int 0])), (y0, .inr (11, mFs r mv0))]) [0, 36, 27, 42] rfl
  have hD := hD.sub (ws' := [(x0, .inr (10, [.ref (x 0), .ref (x 2), .ref (x 26), .ref (x 21), .ref (x 20), .ref (x 25), .ref (x 29), .ref (x 31), .ref (x 35), .int 0])), ((x 35), .inr (8, [.ref (x 26), .ref (x 36), .ref (x 37), .ref (x 38), .ref (x 39), .int 0, .ref (x 40)])), ((x 26), .inr (7, [.ref (x 13), .ref (x 14), .ref (x 15), .int 0, .int 0, .int 10, .int 150, .int 2, .int 0, .int 0])), (y0, .inr (11, mFs r mv0))]) [0, 36, 27, 42] (by decide) rfl
  refine lv_aload_n hx hb dL_law_1278 rfl (lv_at hl 2 rfl) ?_
  refine lv_aload_n hx hb dL_law_1279 rfl (lv_at hl 3 rfl) ?_
  refine lv_iload_n hx hb dL_law_1280 rfl (lv_at hl 0 rfl) ?_
  refine lv_iconst (v := 1) hx hb dL_law_1281 (by decide) ?_
  refine lv_iadd hx hb dL_law_1282 ?_
  refine tI (y := 1) (by decide) ?_
  refine va_sld hx hb hX hbl hbA hS (vp_in_nI (n := 1) (by decide) (by decide)) dL_law_1283 ?_
  refine tI (y := xs 1) (congrArg xs (nI_clamp (n := 1) (by decide))) ?_
  refine lv_aload_n hx hb dL_law_1284 rfl (lv_at hl 3 rfl) ?_
  refine lv_iload_n hx hb dL_law_1285 rfl (lv_at hl 0 rfl) ?_
  refine lv_iconst (v := 2) hx hb dL_law_1286 (by decide) ?_
  refine lv_iadd hx hb dL_law_1287 ?_
  refine tI (y := 2) (by decide) ?_
  refine va_sld hx hb hX hbl hbA hS (vp_in_nI (n := 2) (by decide) (by decide)) dL_law_1288 ?_
  refine tI (y := xs 2) (congrArg xs (nI_clamp (n := 2) (by decide))) ?_
  refine caVi (n := 2) (wr := [(y0, .inr (11, mFs r mv0))]) (rest := []) hx hb hml hown hts hE hP hD hS hA (cnX10_sure_1 l dC dI cy x0 (x 35) (x 26) (x 0) (x 2) (x 21) (x 20) (x 25) (x 29) (x 31) (x 36) (x 37) (x 38) (x 39) (x 40) (x 13) (x 14) (x 15) (xs 1) (xs 2)) k_1264 k_1265 k_1266 k_101 k_1267 (by decide +kernel) ⟨Nat.le_of_ble_eq_true rfl, Nat.le_of_ble_eq_true rfl⟩ [0, 1, 2] [3] rfl rfl rfl (by decide) (by decide) (by decide) 0 10 rfl rfl rfl hl.1 rfl (Nat.le_of_ble_eq_true rfl) dL_law_1289 ⟨Nat.le_of_ble_eq_true rfl, Nat.le_of_ble_eq_true rfl⟩ (fun rr u H locs hw hP hD hS => ?_)
  have hP : va_P (dC, dI) vwCl [(y0, .inr (11, mFs r mv0))] H := hP
  have hD : va_D (fun q : Nat => s.heap.size ≤ q) [(y0, .inr (11, mFs r mv0))] := hD
  refine tI (y := (F_sure (xs 1) (xs 2))) hw ?_
  refine lv_aload_n hx hb dL_law_1292 rfl (lv_at hl 1 rfl) ?_
  refine lv_aload_n hx hb dL_law_1293 rfl (lv_at hl 3 rfl) ?_
  refine lv_iload_n hx hb dL_law_1294 rfl (lv_at hl 0 rfl) ?_
  refine lv_iconst (v := 1) hx hb dL_law_1295 (by decide) ?_
  refine lv_iadd hx hb dL_law_1296 ?_
  refine tI (y := 1) (by decide) ?_
  refine va_sld hx hb hX hbl hbA hS (vp_in_nI (n := 1) (by decide) (by decide)) dL_law_1297 ?_
  refine tI (y := xs 1) (congrArg xs (nI_clamp (n := 1) (by decide))) ?_
  refine lv_aload_n hx hb dL_law_1298 rfl (lv_at hl 3 rfl) ?_
  refine lv_iload_n hx hb dL_law_1299 rfl (lv_at hl 0 rfl) ?_
  refine lv_iconst (v := 2) hx hb dL_law_1300 (by decide) ?_
  refine lv_iadd hx hb dL_law_1301 ?_
  refine tI (y := 2) (by decide) ?_
  refine va_sld hx hb hX hbl hbA hS (vp_in_nI (n := 2) (by decide) (by decide)) dL_law_1302 ?_
  refine tI (y := xs 2) (congrArg xs (nI_clamp (n := 2) (by decide))) ?_
  refine caVi (n := 2) (wr := []) (rest := [.int (F_sure (xs 1) (xs 2))]) hx hb hml hown hts hE hP hD hS hA (cnX11_sure_1 l dC dI cy y0 r (xs 1) (xs 2)) k_2032 k_2033 k_2034 k_114 k_2035 (by decide +kernel) ⟨Nat.le_of_ble_eq_true rfl, Nat.le_of_ble_eq_true rfl⟩ [0] [] rfl rfl rfl (by decide) (by decide) (by decide) 0 11 rfl rfl rfl hl.1 rfl (Nat.le_of_ble_eq_true rfl) dL_law_1303 ⟨Nat.le_of_ble_eq_true rfl, Nat.le_of_ble_eq_true rfl⟩ (fun rr u H locs hw hP hD hS => ?_)
  have hP : va_P (dC, dI) vwCl [] H := hP
  have hD : va_D (fun q : Nat => s.heap.size ≤ q) [] := hD
  refine tI (y := (F_sure (xs 1) (xs 2))) hw ?_
  refine lv_icmp_eq (tgt := 1413) hx hb dL_law_1306 (by decide) (fun _ => ?_) (fun c0 => absurd rfl c0)
  exact fin _ _ _ hS hl
set_option maxHeartbeats 4000000 in
set_option maxRecDepth 100000 in
theorem law_43 {p : Program} {l : Launch} {e : Env} {s : State} {m : MethodId} {below : List Frame} {meth : Method} {c : Code} {dC : Nat → ClassId} {dI : Nat → Nat → Nat} {cy : Nat → ClassId} {b : Nat} {xs : Nat → Int32} {Q : State → Prop} (hx : p.tables.exec = Jvm.exec) (hb : c.code = code) (hml : c.maxLocals = 4) (hown : s.vm.findClass RL = some m.cls) (hts : ∀ w ∈ BIG, w.before #[Value.ref b] s = true) (hE : ENV (dC, dI) cy s) (hX : va_X b 6 xs s s.heap) (hbl : b < s.heap.size) {x0 y0 : Nat} {x r : Nat → Nat} {H : Heap} {locs : List Loc} {ls : Array Slot} (hP : va_P (dC, dI) vwCl (LW cy x0 y0 x r) H) (hD : va_D (fun q : Nat => s.heap.size ≤ q) (LW cy x0 y0 x r)) (hS : va_S (fun q : Nat => s.heap.size ≤ q) s.heap H locs) (hl : lv_has ls 4 [(3, .int 0), (2, .ref y0), (1, .ref x0), (0, .ref b)]) (fin : ∀ (H : Heap) (locs : List Loc) (ls : Array Slot), va_S (fun q : Nat => s.heap.size ≤ q) s.heap H locs → lv_has ls 4 [(3, .int 0), (2, .ref y0), (1, .ref x0), (0, .ref b)] → W p l e room_1 s m #[Value.ref b] below meth c H locs 81 11738 Q (F0 m 1413 ls [])) : W p l e room_1 s m #[Value.ref b] below meth c H locs 81 11738 Q (F0 m 1311 ls []) := by
  have hA : ∀ q : Nat, s.heap.size ≤ q → (fun q : Nat => s.heap.size ≤ q) q := fun _ h => h
  have hbA : ¬ (fun q : Nat => s.heap.size ≤ q) b := Nat.not_le.mpr hbl
  have hP := hP.sub (ws' := [(x0, .inr (10, [.ref (x 0), .ref (x 2), .ref (x 26), .ref (x 21), .ref (x 20), .ref (x 25), .ref (x 29), .ref (x 31), .ref (x 35), .int 0])), ((x 35), .inr (8, [.ref (x 26), .ref (x 36), .ref (x 37), .ref (x 38), .ref (x 39), .int 0, .ref (x 40)])), ((x 26), .inr (7, [.ref (x 13), .ref (x 14), .ref (x 15), .int 0, .int 0, .int 10, .int 150, .int 2, .int 0, .int 0])), (y0, .inr (11, mFs r mv0))]) [0, 36, 27, 42] rfl
  have hD := hD.sub (ws' := [(x0, .inr (10, [.ref (x 0), .ref (x 2), .ref (x 26), .ref (x 21), .ref (x 20), .ref (x 25), .ref (x 29), .ref (x 31), .ref (x 35), .int 0])), ((x 35), .inr (8, [.ref (x 26), .ref (x 36), .ref (x 37), .ref (x 38), .ref (x 39), .int 0, .ref (x 40)])), ((x 26), .inr (7, [.ref (x 13), .ref (x 14), .ref (x 15), .int 0, .int 0, .int 10, .int 150, .int 2, .int 0, .int 0])), (y0, .inr (11, mFs r mv0))]) [0, 36, 27, 42] (by decide) rfl
  refine lv_aload_n hx hb dL_law_1311 rfl (lv_at hl 2 rfl) ?_
  refine lv_aload_n hx hb dL_law_1312 rfl (lv_at hl 3 rfl) ?_
  refine lv_iload_n hx hb dL_law_1313 rfl (lv_at hl 0 rfl) ?_
  refine lv_iconst (v := 1) hx hb dL_law_1314 (by decide) ?_
  refine lv_iadd hx hb dL_law_1315 ?_
  refine tI (y := 1) (by decide) ?_
  refine va_sld hx hb hX hbl hbA hS (vp_in_nI (n := 1) (by decide) (by decide)) dL_law_1316 ?_
  refine tI (y := xs 1) (congrArg xs (nI_clamp (n := 1) (by decide))) ?_
  refine lv_aload_n hx hb dL_law_1317 rfl (lv_at hl 3 rfl) ?_
  refine lv_iload_n hx hb dL_law_1318 rfl (lv_at hl 0 rfl) ?_
  refine lv_iconst (v := 2) hx hb dL_law_1319 (by decide) ?_
  refine lv_iadd hx hb dL_law_1320 ?_
  refine tI (y := 2) (by decide) ?_
  refine va_sld hx hb hX hbl hbA hS (vp_in_nI (n := 2) (by decide) (by decide)) dL_law_1321 ?_
  refine tI (y := xs 2) (congrArg xs (nI_clamp (n := 2) (by decide))) ?_
  refine caVi (n := 2) (wr := [(y0, .inr (11, mFs r mv0))]) (rest := []) hx hb hml hown hts hE hP hD hS hA (cnX10_ask_1 l dC dI cy x0 (x 35) (x 26) (x 0) (x 2) (x 21) (x 20) (x 25) (x 29) (x 31) (x 36) (x 37) (x 38) (x 39) (x 40) (x 13) (x 14) (x 15) (xs 1) (xs 2)) k_1275 k_1276 k_1277 k_101 k_1278 (by decide +kernel) ⟨Nat.le_of_ble_eq_true rfl, Nat.le_of_ble_eq_true rfl⟩ [0, 1, 2] [3] rfl rfl rfl (by decide) (by decide) (by decide) 0 10 rfl rfl rfl hl.1 rfl (Nat.le_of_ble_eq_true rfl) dL_law_1322 ⟨Nat.le_of_ble_eq_true rfl, Nat.le_of_ble_eq_true rfl⟩ (fun rr u H locs hw hP hD hS => ?_)
  have hP : va_P (dC, dI) vwCl [(y0, .inr (11, mFs r mv0))] H := hP
  have hD : va_D (fun q : Nat => s.heap.size ≤ q) [(y0, .inr (11, mFs r mv0))] := hD
  refine tI (y := (F_ask (xs 1) (xs 2))) hw ?_
  refine lv_aload_n hx hb dL_law_1325 rfl (lv_at hl 1 rfl) ?_
  refine lv_aload_n hx hb dL_law_1326 rfl (lv_at hl 3 rfl) ?_
  refine lv_iload_n hx hb dL_law_1327 rfl (lv_at hl 0 rfl) ?_
  refine lv_iconst (v := 1) hx hb dL_law_1328 (by decide) ?_
  refine lv_iadd hx hb dL_law_1329 ?_
  refine tI (y := 1) (by decide) ?_
  refine va_sld hx hb hX hbl hbA hS (vp_in_nI (n := 1) (by decide) (by decide)) dL_law_1330 ?_
  refine tI (y := xs 1) (congrArg xs (nI_clamp (n := 1) (by decide))) ?_
  refine lv_aload_n hx hb dL_law_1331 rfl (lv_at hl 3 rfl) ?_
  refine lv_iload_n hx hb dL_law_1332 rfl (lv_at hl 0 rfl) ?_
  refine lv_iconst (v := 2) hx hb dL_law_1333 (by decide) ?_
  refine lv_iadd hx hb dL_law_1334 ?_
  refine tI (y := 2) (by decide) ?_
  refine va_sld hx hb hX hbl hbA hS (vp_in_nI (n := 2) (by decide) (by decide)) dL_law_1335 ?_
  refine tI (y := xs 2) (congrArg xs (nI_clamp (n := 2) (by decide))) ?_
  refine caVi (n := 2) (wr := []) (rest := [.int (F_ask (xs 1) (xs 2))]) hx hb hml hown hts hE hP hD hS hA (cnX11_ask_1 l dC dI cy y0 r (xs 1) (xs 2)) k_2036 k_2037 k_2038 k_114 k_2039 (by decide +kernel) ⟨Nat.le_of_ble_eq_true rfl, Nat.le_of_ble_eq_true rfl⟩ [0] [] rfl rfl rfl (by decide) (by decide) (by decide) 0 11 rfl rfl rfl hl.1 rfl (Nat.le_of_ble_eq_true rfl) dL_law_1336 ⟨Nat.le_of_ble_eq_true rfl, Nat.le_of_ble_eq_true rfl⟩ (fun rr u H locs hw hP hD hS => ?_)
  have hP : va_P (dC, dI) vwCl [] H := hP
  have hD : va_D (fun q : Nat => s.heap.size ≤ q) [] := hD
  refine tI (y := (F_ask (xs 1) (xs 2))) hw ?_
  refine lv_icmp_eq (tgt := 1413) hx hb dL_law_1339 (by decide) (fun _ => ?_) (fun c0 => absurd rfl c0)
  exact fin _ _ _ hS hl
set_option maxHeartbeats 4000000 in
set_option maxRecDepth 100000 in
theorem law_44 {p : Program} {l : Launch} {e : Env} {s : State} {m : MethodId} {below : List Frame} {meth : Method} {c : Code} {dC : Nat → ClassId} {dI : Nat → Nat → Nat} {cy : Nat → ClassId} {b : Nat} {xs : Nat → Int32} {Q : State → Prop} (hx : p.tables.exec = Jvm.exec) (hb : c.code = code) (hml : c.maxLocals = 4) (hown : s.vm.findClass RL = some m.cls) (hts : ∀ w ∈ BIG, w.before #[Value.ref b] s = true) (hE : ENV (dC, dI) cy s) (hX : va_X b 6 xs s s.heap) (hbl : b < s.heap.size) {x0 y0 : Nat} {x r : Nat → Nat} {H : Heap} {locs : List Loc} {ls : Array Slot} (hP : va_P (dC, dI) vwCl (LW cy x0 y0 x r) H) (hD : va_D (fun q : Nat => s.heap.size ≤ q) (LW cy x0 y0 x r)) (hS : va_S (fun q : Nat => s.heap.size ≤ q) s.heap H locs) (hl : lv_has ls 4 [(3, .int 0), (2, .ref y0), (1, .ref x0), (0, .ref b)]) (fin : ∀ (H : Heap) (locs : List Loc) (ls : Array Slot), va_S (fun q : Nat => s.heap.size ≤ q) s.heap H locs → lv_has ls 4 [(3, .int 0), (2, .ref y0), (1, .ref x0), (0, .ref b)] → W p l e room_1 s m #[Value.ref b] below meth c H locs 81 11738 Q (F0 m 1413 ls [])) : W p l e room_1 s m #[Value.ref b] below meth c H locs 81 11738 Q (F0 m 1344 ls []) := by
  have hA : ∀ q : Nat, s.heap.size ≤ q → (fun q : Nat => s.heap.size ≤ q) q := fun _ h => h
  have hbA : ¬ (fun q : Nat => s.heap.size ≤ q) b := Nat.not_le.mpr hbl
  have hP := hP.sub (ws' := [(x0, .inr (10, [.ref (x 0), .ref (x 2), .ref (x 26), .ref (x 21), .ref (x 20), .ref (x 25), .ref (x 29), .ref (x 31), .ref (x 35), .int 0])), ((x 20), .inr (5, [.ref (x 21), .ref (x 24), .ref (x 23), .int 0, .int 0, .int 0, .int 0])), ((x 23), .inl (cy 1, 132, .inl zF)), ((x 21), .inr (1, [.ref (x 26), .ref (x 22)])), ((x 22), .inl (cy 1, 44, .inl cF)), (y0, .inr (11, mFs r mv0)), ((r 77), .inl (cy 3, 3, .inl zF)), ((r 59), .inl (cy 1, 39, .inl zF)), ((r 78), .inl (cy 1, 117, .inl zF))]) [0, 21, 24, 22, 23, 42, 79, 66, 80] rfl
  have hD := hD.sub (ws' := [(x0, .inr (10, [.ref (x 0), .ref (x 2), .ref (x 26), .ref (x 21), .ref (x 20), .ref (x 25), .ref (x 29), .ref (x 31), .ref (x 35), .int 0])), ((x 20), .inr (5, [.ref (x 21), .ref (x 24), .ref (x 23), .int 0, .int 0, .int 0, .int 0])), ((x 23), .inl (cy 1, 132, .inl zF)), ((x 21), .inr (1, [.ref (x 26), .ref (x 22)])), ((x 22), .inl (cy 1, 44, .inl cF)), (y0, .inr (11, mFs r mv0)), ((r 77), .inl (cy 3, 3, .inl zF)), ((r 59), .inl (cy 1, 39, .inl zF)), ((r 78), .inl (cy 1, 117, .inl zF))]) [0, 21, 24, 22, 23, 42, 79, 66, 80] (by decide) rfl
  refine lv_aload_n hx hb dL_law_1344 rfl (lv_at hl 2 rfl) ?_
  refine lv_aload_n hx hb dL_law_1345 rfl (lv_at hl 3 rfl) ?_
  refine lv_iload_n hx hb dL_law_1346 rfl (lv_at hl 0 rfl) ?_
  refine lv_iconst (v := 1) hx hb dL_law_1347 (by decide) ?_
  refine lv_iadd hx hb dL_law_1348 ?_
  refine tI (y := 1) (by decide) ?_
  refine va_sld hx hb hX hbl hbA hS (vp_in_nI (n := 1) (by decide) (by decide)) dL_law_1349 ?_
  refine tI (y := xs 1) (congrArg xs (nI_clamp (n := 1) (by decide))) ?_
  refine caVi (n := 1) (wr := [(y0, .inr (11, mFs r mv0)), ((r 77), .inl (cy 3, 3, .inl zF)), ((r 59), .inl (cy 1, 39, .inl zF)), ((r 78), .inl (cy 1, 117, .inl zF))]) (rest := []) hx hb hml hown hts hE hP hD hS hA (cnX10_image_1 l dC dI cy x0 (x 20) (x 23) (x 21) (x 22) (x 0) (x 2) (x 26) (x 25) (x 29) (x 31) (x 35) (x 24) zF (xs 1)) k_1290 k_1291 k_1292 k_101 k_1293 (by decide +kernel) ⟨Nat.le_of_ble_eq_true rfl, Nat.le_of_ble_eq_true rfl⟩ [0, 1, 2, 3, 4] [5, 6, 7, 8] rfl rfl rfl (by decide) (by decide) (by decide) 0 10 rfl rfl rfl hl.1 rfl (Nat.le_of_ble_eq_true rfl) dL_law_1350 ⟨Nat.le_of_ble_eq_true rfl, Nat.le_of_ble_eq_true rfl⟩ (fun rr u H locs hw hP hD hS => ?_)
  have hP : va_P (dC, dI) vwCl [(y0, .inr (11, mFs r mv0)), ((r 77), .inl (cy 3, 3, .inl zF)), ((r 59), .inl (cy 1, 39, .inl zF)), ((r 78), .inl (cy 1, 117, .inl zF))] H := hP
  have hD : va_D (fun q : Nat => s.heap.size ≤ q) [(y0, .inr (11, mFs r mv0)), ((r 77), .inl (cy 3, 3, .inl zF)), ((r 59), .inl (cy 1, 39, .inl zF)), ((r 78), .inl (cy 1, 117, .inl zF))] := hD
  refine tI (y := (F_image (xs 1))) hw ?_
  refine lv_aload_n hx hb dL_law_1353 rfl (lv_at hl 1 rfl) ?_
  refine lv_aload_n hx hb dL_law_1354 rfl (lv_at hl 3 rfl) ?_
  refine lv_iload_n hx hb dL_law_1355 rfl (lv_at hl 0 rfl) ?_
  refine lv_iconst (v := 1) hx hb dL_law_1356 (by decide) ?_
  refine lv_iadd hx hb dL_law_1357 ?_
  refine tI (y := 1) (by decide) ?_
  refine va_sld hx hb hX hbl hbA hS (vp_in_nI (n := 1) (by decide) (by decide)) dL_law_1358 ?_
  refine tI (y := xs 1) (congrArg xs (nI_clamp (n := 1) (by decide))) ?_
  refine caVi (n := 1) (wr := []) (rest := [.int (F_image (xs 1))]) hx hb hml hown hts hE hP hD hS hA (cnX11_image_1 l dC dI cy y0 r zF (xs 1)) k_2044 k_2045 k_2046 k_114 k_2047 (by decide +kernel) ⟨Nat.le_of_ble_eq_true rfl, Nat.le_of_ble_eq_true rfl⟩ [0, 1, 2, 3] [] rfl rfl rfl (by decide) (by decide) (by decide) 0 11 rfl rfl rfl hl.1 rfl (Nat.le_of_ble_eq_true rfl) dL_law_1359 ⟨Nat.le_of_ble_eq_true rfl, Nat.le_of_ble_eq_true rfl⟩ (fun rr u H locs hw hP hD hS => ?_)
  have hP : va_P (dC, dI) vwCl [] H := hP
  have hD : va_D (fun q : Nat => s.heap.size ≤ q) [] := hD
  refine tI (y := (F_image (xs 1))) hw ?_
  refine lv_icmp_eq (tgt := 1413) hx hb dL_law_1362 (by decide) (fun _ => ?_) (fun c0 => absurd rfl c0)
  exact fin _ _ _ hS hl
set_option maxHeartbeats 4000000 in
set_option maxRecDepth 100000 in
theorem law_45 {p : Program} {l : Launch} {e : Env} {s : State} {m : MethodId} {below : List Frame} {meth : Method} {c : Code} {dC : Nat → ClassId} {dI : Nat → Nat → Nat} {cy : Nat → ClassId} {b : Nat} {xs : Nat → Int32} {Q : State → Prop} (hx : p.tables.exec = Jvm.exec) (hb : c.code = code) (hml : c.maxLocals = 4) (hown : s.vm.findClass RL = some m.cls) (hts : ∀ w ∈ BIG, w.before #[Value.ref b] s = true) (hE : ENV (dC, dI) cy s) (hX : va_X b 6 xs s s.heap) (hbl : b < s.heap.size) {x0 y0 : Nat} {x r : Nat → Nat} {H : Heap} {locs : List Loc} {ls : Array Slot} (hP : va_P (dC, dI) vwCl (LW cy x0 y0 x r) H) (hD : va_D (fun q : Nat => s.heap.size ≤ q) (LW cy x0 y0 x r)) (hS : va_S (fun q : Nat => s.heap.size ≤ q) s.heap H locs) (hl : lv_has ls 4 [(3, .int 0), (2, .ref y0), (1, .ref x0), (0, .ref b)]) (fin : ∀ (H : Heap) (locs : List Loc) (ls : Array Slot), va_S (fun q : Nat => s.heap.size ≤ q) s.heap H locs → lv_has ls 4 [(3, .int 0), (2, .ref y0), (1, .ref x0), (0, .ref b)] → W p l e room_1 s m #[Value.ref b] below meth c H locs 81 11738 Q (F0 m 1413 ls [])) : W p l e room_1 s m #[Value.ref b] below meth c H locs 81 11738 Q (F0 m 1367 ls []) := by
  have hA : ∀ q : Nat, s.heap.size ≤ q → (fun q : Nat => s.heap.size ≤ q) q := fun _ h => h
  have hbA : ¬ (fun q : Nat => s.heap.size ≤ q) b := Nat.not_le.mpr hbl
  have hP := hP.sub (ws' := [(x0, .inr (10, [.ref (x 0), .ref (x 2), .ref (x 26), .ref (x 21), .ref (x 20), .ref (x 25), .ref (x 29), .ref (x 31), .ref (x 35), .int 0])), ((x 20), .inr (5, [.ref (x 21), .ref (x 24), .ref (x 23), .int 0, .int 0, .int 0, .int 0])), (y0, .inr (11, mFs r mv0)), ((r 77), .inl (cy 3, 3, .inl zF))]) [0, 21, 42, 79] rfl
  have hD := hD.sub (ws' := [(x0, .inr (10, [.ref (x 0), .ref (x 2), .ref (x 26), .ref (x 21), .ref (x 20), .ref (x 25), .ref (x 29), .ref (x 31), .ref (x 35), .int 0])), ((x 20), .inr (5, [.ref (x 21), .ref (x 24), .ref (x 23), .int 0, .int 0, .int 0, .int 0])), (y0, .inr (11, mFs r mv0)), ((r 77), .inl (cy 3, 3, .inl zF))]) [0, 21, 42, 79] (by decide) rfl
  refine lv_aload_n hx hb dL_law_1367 rfl (lv_at hl 2 rfl) ?_
  refine lv_aload_n hx hb dL_law_1368 rfl (lv_at hl 3 rfl) ?_
  refine lv_iload_n hx hb dL_law_1369 rfl (lv_at hl 0 rfl) ?_
  refine lv_iconst (v := 1) hx hb dL_law_1370 (by decide) ?_
  refine lv_iadd hx hb dL_law_1371 ?_
  refine tI (y := 1) (by decide) ?_
  refine va_sld hx hb hX hbl hbA hS (vp_in_nI (n := 1) (by decide) (by decide)) dL_law_1372 ?_
  refine tI (y := xs 1) (congrArg xs (nI_clamp (n := 1) (by decide))) ?_
  refine caVi (n := 1) (wr := [(y0, .inr (11, mFs r mv0)), ((r 77), .inl (cy 3, 3, .inl zF))]) (rest := []) hx hb hml hown hts hE hP hD hS hA (cnX10_back_1 l dC dI cy x0 (x 20) (x 0) (x 2) (x 26) (x 21) (x 25) (x 29) (x 31) (x 35) (x 24) (x 23) (xs 1)) k_1298 k_1299 k_1300 k_101 k_1301 (by decide +kernel) ⟨Nat.le_of_ble_eq_true rfl, Nat.le_of_ble_eq_true rfl⟩ [0, 1] [2, 3] rfl rfl rfl (by decide) (by decide) (by decide) 0 10 rfl rfl rfl hl.1 rfl (Nat.le_of_ble_eq_true rfl) dL_law_1373 ⟨Nat.le_of_ble_eq_true rfl, Nat.le_of_ble_eq_true rfl⟩ (fun rr u H locs hw hP hD hS => ?_)
  have hP : va_P (dC, dI) vwCl [(y0, .inr (11, mFs r mv0)), ((r 77), .inl (cy 3, 3, .inl zF))] H := hP
  have hD : va_D (fun q : Nat => s.heap.size ≤ q) [(y0, .inr (11, mFs r mv0)), ((r 77), .inl (cy 3, 3, .inl zF))] := hD
  refine tI (y := (F_back (xs 1))) hw ?_
  refine lv_aload_n hx hb dL_law_1376 rfl (lv_at hl 1 rfl) ?_
  refine lv_aload_n hx hb dL_law_1377 rfl (lv_at hl 3 rfl) ?_
  refine lv_iload_n hx hb dL_law_1378 rfl (lv_at hl 0 rfl) ?_
  refine lv_iconst (v := 1) hx hb dL_law_1379 (by decide) ?_
  refine lv_iadd hx hb dL_law_1380 ?_
  refine tI (y := 1) (by decide) ?_
  refine va_sld hx hb hX hbl hbA hS (vp_in_nI (n := 1) (by decide) (by decide)) dL_law_1381 ?_
  refine tI (y := xs 1) (congrArg xs (nI_clamp (n := 1) (by decide))) ?_
  refine caVi (n := 1) (wr := []) (rest := [.int (F_back (xs 1))]) hx hb hml hown hts hE hP hD hS hA (cnX11_back_1 l dC dI cy y0 r (xs 1)) k_2051 k_2052 k_2053 k_114 k_2054 (by decide +kernel) ⟨Nat.le_of_ble_eq_true rfl, Nat.le_of_ble_eq_true rfl⟩ [0, 1] [] rfl rfl rfl (by decide) (by decide) (by decide) 0 11 rfl rfl rfl hl.1 rfl (Nat.le_of_ble_eq_true rfl) dL_law_1382 ⟨Nat.le_of_ble_eq_true rfl, Nat.le_of_ble_eq_true rfl⟩ (fun rr u H locs hw hP hD hS => ?_)
  have hP : va_P (dC, dI) vwCl [] H := hP
  have hD : va_D (fun q : Nat => s.heap.size ≤ q) [] := hD
  refine tI (y := (F_back (xs 1))) hw ?_
  refine lv_icmp_eq (tgt := 1413) hx hb dL_law_1385 (by decide) (fun _ => ?_) (fun c0 => absurd rfl c0)
  exact fin _ _ _ hS hl
set_option maxHeartbeats 4000000 in
set_option maxRecDepth 100000 in
theorem law_46 {p : Program} {l : Launch} {e : Env} {s : State} {m : MethodId} {below : List Frame} {meth : Method} {c : Code} {dC : Nat → ClassId} {dI : Nat → Nat → Nat} {cy : Nat → ClassId} {b : Nat} {xs : Nat → Int32} {Q : State → Prop} (hx : p.tables.exec = Jvm.exec) (hb : c.code = code) (hml : c.maxLocals = 4) (hown : s.vm.findClass RL = some m.cls) (hts : ∀ w ∈ BIG, w.before #[Value.ref b] s = true) (hE : ENV (dC, dI) cy s) (hX : va_X b 6 xs s s.heap) (hbl : b < s.heap.size) {x0 y0 : Nat} {x r : Nat → Nat} {H : Heap} {locs : List Loc} {ls : Array Slot} (hP : va_P (dC, dI) vwCl (LW cy x0 y0 x r) H) (hD : va_D (fun q : Nat => s.heap.size ≤ q) (LW cy x0 y0 x r)) (hS : va_S (fun q : Nat => s.heap.size ≤ q) s.heap H locs) (hl : lv_has ls 4 [(3, .int 0), (2, .ref y0), (1, .ref x0), (0, .ref b)]) (fin : ∀ (H : Heap) (locs : List Loc) (ls : Array Slot), va_S (fun q : Nat => s.heap.size ≤ q) s.heap H locs → lv_has ls 4 [(3, .int 0), (2, .ref y0), (1, .ref x0), (0, .ref b)] → W p l e room_1 s m #[Value.ref b] below meth c H locs 81 11738 Q (F0 m 1413 ls [])) : W p l e room_1 s m #[Value.ref b] below meth c H locs 81 11738 Q (F0 m 1390 ls []) := by
  have hA : ∀ q : Nat, s.heap.size ≤ q → (fun q : Nat => s.heap.size ≤ q) q := fun _ h => h
  have hbA : ¬ (fun q : Nat => s.heap.size ≤ q) b := Nat.not_le.mpr hbl
  have hP := hP.sub (ws' := [(x0, .inr (10, [.ref (x 0), .ref (x 2), .ref (x 26), .ref (x 21), .ref (x 20), .ref (x 25), .ref (x 29), .ref (x 31), .ref (x 35), .int 0])), ((x 26), .inr (7, [.ref (x 13), .ref (x 14), .ref (x 15), .int 0, .int 0, .int 10, .int 150, .int 2, .int 0, .int 0])), ((x 21), .inr (1, [.ref (x 26), .ref (x 22)])), ((x 22), .inl (cy 1, 44, .inl cF)), ((x 20), .inr (5, [.ref (x 21), .ref (x 24), .ref (x 23), .int 0, .int 0, .int 0, .int 0])), ((x 35), .inr (8, [.ref (x 26), .ref (x 36), .ref (x 37), .ref (x 38), .ref (x 39), .int 0, .ref (x 40)])), ((x 0), .inr (9, [.ref (x 1), .int 0, .int 0, .int 0, .int 0, .int 0])), ((x 15), .inr (4, [.ref (x 16), .ref (x 17), .ref (x 18), .ref (x 19), .int 0, .int 0])), ((x 31), .inr (0, [.ref (x 26), .ref (x 21), .ref (x 32), .int 0, .ref (x 33), .ref (x 34), .int 0, .int 0])), (y0, .inr (11, mFs r mv0)), ((r 59), .inl (cy 1, 39, .inl zF))]) [0, 27, 22, 23, 21, 36, 1, 16, 32, 42, 66] rfl
  have hD := hD.sub (ws' := [(x0, .inr (10, [.ref (x 0), .ref (x 2), .ref (x 26), .ref (x 21), .ref (x 20), .ref (x 25), .ref (x 29), .ref (x 31), .ref (x 35), .int 0])), ((x 26), .inr (7, [.ref (x 13), .ref (x 14), .ref (x 15), .int 0, .int 0, .int 10, .int 150, .int 2, .int 0, .int 0])), ((x 21), .inr (1, [.ref (x 26), .ref (x 22)])), ((x 22), .inl (cy 1, 44, .inl cF)), ((x 20), .inr (5, [.ref (x 21), .ref (x 24), .ref (x 23), .int 0, .int 0, .int 0, .int 0])), ((x 35), .inr (8, [.ref (x 26), .ref (x 36), .ref (x 37), .ref (x 38), .ref (x 39), .int 0, .ref (x 40)])), ((x 0), .inr (9, [.ref (x 1), .int 0, .int 0, .int 0, .int 0, .int 0])), ((x 15), .inr (4, [.ref (x 16), .ref (x 17), .ref (x 18), .ref (x 19), .int 0, .int 0])), ((x 31), .inr (0, [.ref (x 26), .ref (x 21), .ref (x 32), .int 0, .ref (x 33), .ref (x 34), .int 0, .int 0])), (y0, .inr (11, mFs r mv0)), ((r 59), .inl (cy 1, 39, .inl zF))]) [0, 27, 22, 23, 21, 36, 1, 16, 32, 42, 66] (by decide) rfl
  refine lv_aload_n hx hb dL_law_1390 rfl (lv_at hl 2 rfl) ?_
  refine lv_aload_n hx hb dL_law_1391 rfl (lv_at hl 3 rfl) ?_
  refine lv_iload_n hx hb dL_law_1392 rfl (lv_at hl 0 rfl) ?_
  refine lv_iconst (v := 1) hx hb dL_law_1393 (by decide) ?_
  refine lv_iadd hx hb dL_law_1394 ?_
  refine tI (y := 1) (by decide) ?_
  refine va_sld hx hb hX hbl hbA hS (vp_in_nI (n := 1) (by decide) (by decide)) dL_law_1395 ?_
  refine tI (y := xs 1) (congrArg xs (nI_clamp (n := 1) (by decide))) ?_
  refine caVi (n := 1) (wr := [(y0, .inr (11, mFs r mv0)), ((r 59), .inl (cy 1, 39, .inl zF))]) (rest := []) hx hb hml hown hts hE hP hD hS hA (cnX10_about_1 l dC dI cy x0 (x 26) (x 21) (x 22) (x 20) (x 35) (x 0) (x 15) (x 31) (x 2) (x 25) (x 29) (x 13) (x 14) (x 24) (x 23) (x 36) (x 37) (x 38) (x 39) (x 40) (x 1) (x 16) (x 17) (x 18) (x 19) (x 32) (x 33) (x 34) (xs 1)) k_1306 k_1307 k_1308 k_101 k_1309 (by decide +kernel) ⟨Nat.le_of_ble_eq_true rfl, Nat.le_of_ble_eq_true rfl⟩ [0, 1, 2, 3, 4, 5, 6, 7, 8] [9, 10] rfl rfl rfl (by decide) (by decide) (by decide) 0 10 rfl rfl rfl hl.1 rfl (Nat.le_of_ble_eq_true rfl) dL_law_1396 ⟨Nat.le_of_ble_eq_true rfl, Nat.le_of_ble_eq_true rfl⟩ (fun rr u H locs hw hP hD hS => ?_)
  have hP : va_P (dC, dI) vwCl [(y0, .inr (11, mFs r mv0)), ((r 59), .inl (cy 1, 39, .inl zF))] H := hP
  have hD : va_D (fun q : Nat => s.heap.size ≤ q) [(y0, .inr (11, mFs r mv0)), ((r 59), .inl (cy 1, 39, .inl zF))] := hD
  refine tI (y := (F_about (xs 1))) hw ?_
  refine lv_aload_n hx hb dL_law_1399 rfl (lv_at hl 1 rfl) ?_
  refine lv_aload_n hx hb dL_law_1400 rfl (lv_at hl 3 rfl) ?_
  refine lv_iload_n hx hb dL_law_1401 rfl (lv_at hl 0 rfl) ?_
  refine lv_iconst (v := 1) hx hb dL_law_1402 (by decide) ?_
  refine lv_iadd hx hb dL_law_1403 ?_
  refine tI (y := 1) (by decide) ?_
  refine va_sld hx hb hX hbl hbA hS (vp_in_nI (n := 1) (by decide) (by decide)) dL_law_1404 ?_
  refine tI (y := xs 1) (congrArg xs (nI_clamp (n := 1) (by decide))) ?_
  refine caVi (n := 1) (wr := []) (rest := [.int (F_about (xs 1))]) hx hb hml hown hts hE hP hD hS hA (cnX11_about_1 l dC dI cy y0 r (xs 1)) k_2055 k_2056 k_2057 k_114 k_2058 (by decide +kernel) ⟨Nat.le_of_ble_eq_true rfl, Nat.le_of_ble_eq_true rfl⟩ [0, 1] [] rfl rfl rfl (by decide) (by decide) (by decide) 0 11 rfl rfl rfl hl.1 rfl (Nat.le_of_ble_eq_true rfl) dL_law_1405 ⟨Nat.le_of_ble_eq_true rfl, Nat.le_of_ble_eq_true rfl⟩ (fun rr u H locs hw hP hD hS => ?_)
  have hP : va_P (dC, dI) vwCl [] H := hP
  have hD : va_D (fun q : Nat => s.heap.size ≤ q) [] := hD
  refine tI (y := (F_about (xs 1))) hw ?_
  refine lv_icmp_eq (tgt := 1413) hx hb dL_law_1408 (by decide) (fun _ => ?_) (fun c0 => absurd rfl c0)
  exact fin _ _ _ hS hl
