set_option maxHeartbeats 4000000 in
set_option maxRecDepth 100000 in
theorem law_0 {p : Program} {l : Launch} {e : Env} {s : State} {m : MethodId} {below : List Frame} {meth : Method} {c : Code} {dC : Nat → ClassId} {dI : Nat → Nat → Nat} {cy : Nat → ClassId} {b L : Nat} {xs : Nat → Int32} {Q : State → Prop} {x0 y0 : Nat} {x r : Nat → Nat} (hx : p.tables.exec = Jvm.exec) (hb : c.code = code) (hml : c.maxLocals = 4) (hown : s.vm.findClass RL = some m.cls) (hts : ∀ w ∈ BIG, w.before #[Value.ref b] s = true) (hE : ENV (dC, dI) cy s) (hF : SRF (dC, dI) s) (hT : STR (dC, dI) (fun q : Nat => s.heap.size ≤ q) s s.heap) (hX : va_X b L xs s s.heap) (hbl : b < s.heap.size) (hL : L ≤ 3072) {v : Nat → Int32} {f : Nat → Nat → Int32} {v1 : Nat → Int32} {f1 : Nat → Nat → Int32} {w1 : Int64} {g1 : Nat → Int64} {i : Int32} (hi0 : 0 ≤ i.toInt) (hi6 : i.toInt + 6 ≤ L) {H : Heap} {locs : List Loc} {ls : Array Slot} (hIv : XI v) (hIv1 : YI v1) (hCf1 : YC f1) (hRf1 : progOK (f1 4) (f1 5) (v1 9).toInt.toNat) (heq0 : FREL v f v1 f1) (hP : va_P (dC, dI) vwCl (XW cy x0 x v f ++ YW cy y0 r v1 f1 w1 g1) H) (hD : va_D (fun q : Nat => s.heap.size ≤ q) (XW cy x0 x v f ++ YW cy y0 r v1 f1 w1 g1)) (hS : va_S (fun q : Nat => s.heap.size ≤ q) s.heap H locs) (hl : lv_has ls 4 [(3, .int i), (2, .ref y0), (1, .ref x0), (0, .ref b)]) (fin : ∀ (v : Nat → Int32) (f : Nat → Nat → Int32) (v1 : Nat → Int32) (f1 : Nat → Nat → Int32) (w1 : Int64) (g1 : Nat → Int64) (H : Heap) (locs : List Loc) (ls : Array Slot), XI v → YI v1 → YC f1 → progOK (f1 4) (f1 5) (v1 9).toInt.toNat → FREL v f v1 f1 → va_P (dC, dI) vwCl (XW cy x0 x v f ++ YW cy y0 r v1 f1 w1 g1) H → va_D (fun q : Nat => s.heap.size ≤ q) (XW cy x0 x v f ++ YW cy y0 r v1 f1 w1 g1) → va_S (fun q : Nat => s.heap.size ≤ q) s.heap H locs → lv_has ls 4 [(3, .int i), (2, .ref y0), (1, .ref x0), (0, .ref b)] → W p l e room_1 s m #[Value.ref b] below meth c H locs 81 11738 Q (F0 m 1413 ls [])) : W p l e room_1 s m #[Value.ref b] below meth c H locs 81 11738 Q (F0 m 236 ls []) := by
  have hA : ∀ q : Nat, s.heap.size ≤ q → (fun q : Nat => s.heap.size ≤ q) q := fun _ h => h
  have hbA : ¬ (fun q : Nat => s.heap.size ≤ q) b := Nat.not_le.mpr hbl
  refine lv_aload_n hx hb dL_law_236 rfl (lv_at hl 2 rfl) ?_
  refine lv_aload_n hx hb dL_law_237 rfl (lv_at hl 3 rfl) ?_
  refine lv_iload_n hx hb dL_law_238 rfl (lv_at hl 0 rfl) ?_
  refine lv_iconst (v := 1) hx hb dL_law_239 (by decide) ?_
  refine lv_iadd hx hb dL_law_240 ?_
  refine lv_topi (fun t1 et1 => ?_)
  have rg2 := fb_rng i
  have zt1 : t1.toInt = i.toInt + 1 := by rw [et1]; exact add_i rfl (by decide) (by omega) (by omega)
  refine va_sld hx hb hX hbl hbA hS (vp_in_iff.mpr ⟨by omega, by omega⟩) dL_law_241 ?_
  refine lv_topi (fun a3 ea3 => ?_)
  refine lv_aload_n hx hb dL_law_242 rfl (lv_at hl 3 rfl) ?_
  refine lv_iload_n hx hb dL_law_243 rfl (lv_at hl 0 rfl) ?_
  refine lv_iconst (v := 2) hx hb dL_law_244 (by decide) ?_
  refine lv_iadd hx hb dL_law_245 ?_
  refine lv_topi (fun t4 et4 => ?_)
  have zt4 : t4.toInt = i.toInt + 2 := by rw [et4]; exact add_i rfl (by decide) (by omega) (by omega)
  refine va_sld hx hb hX hbl hbA hS (vp_in_iff.mpr ⟨by omega, by omega⟩) dL_law_246 ?_
  refine lv_topi (fun a5 ea5 => ?_)
  refine lv_aload_n hx hb dL_law_247 rfl (lv_at hl 3 rfl) ?_
  refine lv_iload_n hx hb dL_law_248 rfl (lv_at hl 0 rfl) ?_
  refine lv_iconst (v := 3) hx hb dL_law_249 (by decide) ?_
  refine lv_iadd hx hb dL_law_250 ?_
  refine lv_topi (fun t6 et6 => ?_)
  have zt6 : t6.toInt = i.toInt + 3 := by rw [et6]; exact add_i rfl (by decide) (by omega) (by omega)
  refine va_sld hx hb hX hbl hbA hS (vp_in_iff.mpr ⟨by omega, by omega⟩) dL_law_251 ?_
  refine lv_topi (fun a7 ea7 => ?_)
  refine lv_aload_n hx hb dL_law_252 rfl (lv_at hl 3 rfl) ?_
  refine lv_iload_n hx hb dL_law_253 rfl (lv_at hl 0 rfl) ?_
  refine lv_iconst (v := 4) hx hb dL_law_254 (by decide) ?_
  refine lv_iadd hx hb dL_law_255 ?_
  refine lv_topi (fun t8 et8 => ?_)
  have zt8 : t8.toInt = i.toInt + 4 := by rw [et8]; exact add_i rfl (by decide) (by omega) (by omega)
  refine va_sld hx hb hX hbl hbA hS (vp_in_iff.mpr ⟨by omega, by omega⟩) dL_law_256 ?_
  refine lv_topi (fun a9 ea9 => ?_)
  refine lv_aload_n hx hb dL_law_257 rfl (lv_at hl 3 rfl) ?_
  refine lv_iload_n hx hb dL_law_258 rfl (lv_at hl 0 rfl) ?_
  refine lv_iconst (v := 5) hx hb dL_law_259 (by decide) ?_
  refine lv_iadd hx hb dL_law_260 ?_
  refine lv_topi (fun t10 et10 => ?_)
  have zt10 : t10.toInt = i.toInt + 5 := by rw [et10]; exact add_i rfl (by decide) (by omega) (by omega)
  refine va_sld hx hb hX hbl hbA hS (vp_in_iff.mpr ⟨by omega, by omega⟩) dL_law_261 ?_
  refine lv_topi (fun a11 ea11 => ?_)
  refine caVi (n := 5) (wr := YW cy y0 r v1 f1 w1 g1) (rest := []) hx hb hml hown hts hE hP hD hS hA (sX_X10_feed_1 0 l dC dI cy x0 x a3 a5 a7 a9 a11 v f hIv) k_522 k_523 k_524 k_101 k_525 hd_yX10_feed ⟨Nat.le_of_ble_eq_true rfl, Nat.le_of_ble_eq_true rfl⟩ [0, 1, 2, 3, 4, 5, 6, 7, 8, 9, 10, 11, 12, 13, 14, 15, 16, 17, 18, 19, 20, 21, 22, 23, 24, 25, 26, 27, 28, 29, 30, 31, 32, 33, 34, 35, 36, 37, 38, 39, 40, 41] [42, 43, 44, 45, 46, 47, 48, 49, 50, 51, 52, 53, 54, 55, 56, 57, 58, 59, 60, 61, 62, 63, 64, 65, 66, 67, 68, 69, 70, 71, 72, 73, 74, 75, 76, 77, 78, 79, 80] (lx1 cy x0 y0 x r v f v1 f1 w1 g1) (lx2 cy x0 y0 x r v f v1 f1 w1 g1) (lx3 cy x0 y0 x r v f v1 f1 w1 g1) lx4 lx5 lx6 0 10 rfl rfl rfl hl.1 rfl (Nat.le_of_ble_eq_true rfl) dL_law_262 ⟨Nat.le_of_ble_eq_true rfl, Nat.le_of_ble_eq_true rfl⟩ (fun r12 u H locs hw hP hD hS => ?_)
  obtain ⟨v13, f14⟩ := u
  obtain ⟨hGx, hVx, hFx, hIv13, hk0x, hk7x, hk8x, hk9x, hk10x, hk31x, hk32x⟩ := hw
  have hP : va_P (dC, dI) vwCl (YW cy y0 r v1 f1 w1 g1 ++ XW cy x0 x v13 f14) H := hP
  have hD : va_D (fun q : Nat => s.heap.size ≤ q) (YW cy y0 r v1 f1 w1 g1 ++ XW cy x0 x v13 f14) := hD
  refine lv_pop hx hb dL_law_265 rfl ?_
  refine lv_aload_n hx hb dL_law_266 rfl (lv_at hl 1 rfl) ?_
  refine lv_aload_n hx hb dL_law_267 rfl (lv_at hl 3 rfl) ?_
  refine lv_iload_n hx hb dL_law_268 rfl (lv_at hl 0 rfl) ?_
  refine lv_iconst (v := 1) hx hb dL_law_269 (by decide) ?_
  refine lv_iadd hx hb dL_law_270 ?_
  refine tI (y := t1) et1.symm ?_
  refine va_sld hx hb hX hbl hbA hS (vp_in_iff.mpr ⟨by omega, by omega⟩) dL_law_271 ?_
  refine tI (y := a3) ea3.symm ?_
  refine lv_aload_n hx hb dL_law_272 rfl (lv_at hl 3 rfl) ?_
  refine lv_iload_n hx hb dL_law_273 rfl (lv_at hl 0 rfl) ?_
  refine lv_iconst (v := 2) hx hb dL_law_274 (by decide) ?_
  refine lv_iadd hx hb dL_law_275 ?_
  refine tI (y := t4) et4.symm ?_
  refine va_sld hx hb hX hbl hbA hS (vp_in_iff.mpr ⟨by omega, by omega⟩) dL_law_276 ?_
  refine tI (y := a5) ea5.symm ?_
  refine lv_aload_n hx hb dL_law_277 rfl (lv_at hl 3 rfl) ?_
  refine lv_iload_n hx hb dL_law_278 rfl (lv_at hl 0 rfl) ?_
  refine lv_iconst (v := 3) hx hb dL_law_279 (by decide) ?_
  refine lv_iadd hx hb dL_law_280 ?_
  refine tI (y := t6) et6.symm ?_
  refine va_sld hx hb hX hbl hbA hS (vp_in_iff.mpr ⟨by omega, by omega⟩) dL_law_281 ?_
  refine tI (y := a7) ea7.symm ?_
  refine lv_aload_n hx hb dL_law_282 rfl (lv_at hl 3 rfl) ?_
  refine lv_iload_n hx hb dL_law_283 rfl (lv_at hl 0 rfl) ?_
  refine lv_iconst (v := 4) hx hb dL_law_284 (by decide) ?_
  refine lv_iadd hx hb dL_law_285 ?_
  refine tI (y := t8) et8.symm ?_
  refine va_sld hx hb hX hbl hbA hS (vp_in_iff.mpr ⟨by omega, by omega⟩) dL_law_286 ?_
  refine tI (y := a9) ea9.symm ?_
  refine lv_aload_n hx hb dL_law_287 rfl (lv_at hl 3 rfl) ?_
  refine lv_iload_n hx hb dL_law_288 rfl (lv_at hl 0 rfl) ?_
  refine lv_iconst (v := 5) hx hb dL_law_289 (by decide) ?_
  refine lv_iadd hx hb dL_law_290 ?_
  refine tI (y := t10) et10.symm ?_
  refine va_sld hx hb hX hbl hbA hS (vp_in_iff.mpr ⟨by omega, by omega⟩) dL_law_291 ?_
  refine tI (y := a11) ea11.symm ?_
  refine caVi (n := 5) (wr := XW cy x0 x v13 f14) (rest := []) hx hb hml hown hts hE hP hD hS hA (sY_X11_feed_1 0 l dC dI cy y0 r a3 a5 a7 a9 a11 v1 f1 w1 g1 hIv1 hCf1 hRf1) k_1559 k_1560 k_1561 k_114 k_1562 hd_yX11_feed ⟨Nat.le_of_ble_eq_true rfl, Nat.le_of_ble_eq_true rfl⟩ [0, 1, 2, 3, 4, 5, 6, 7, 8, 9, 10, 11, 12, 13, 14, 15, 16, 17, 18, 19, 20, 21, 22, 23, 24, 25, 26, 27, 28, 29, 30, 31, 32, 33, 34, 35, 36, 37, 38] [39, 40, 41, 42, 43, 44, 45, 46, 47, 48, 49, 50, 51, 52, 53, 54, 55, 56, 57, 58, 59, 60, 61, 62, 63, 64, 65, 66, 67, 68, 69, 70, 71, 72, 73, 74, 75, 76, 77, 78, 79, 80] (ly1 cy x0 y0 x r v13 f14 v1 f1 w1 g1) (ly2 cy x0 y0 x r v13 f14 v1 f1 w1 g1) (ly3 cy x0 y0 x r v13 f14 v1 f1 w1 g1) ly4 ly5 ly6 0 11 rfl rfl rfl hl.1 rfl (Nat.le_of_ble_eq_true rfl) dL_law_292 ⟨Nat.le_of_ble_eq_true rfl, Nat.le_of_ble_eq_true rfl⟩ (fun r15 u H locs hw hP hD hS => ?_)
  obtain ⟨v16, f17, w18, g19⟩ := u
  obtain ⟨hGy, hVy, hFy, hIv16, hCf17, hRf17, hk1y, hk2y, hk3y, hk4y, hk5y, hk8y, hk9y, hk10y, hk13y, hk14y, hk15y, hk17y, hk18y, hk24y, hk25y, hk35y, hk36y, hk38y, hk39y⟩ := hw
  have hpr := FREL.feed heq0 hGx hGy (KV.use hVx rfl) (KF.use hFx rfl) (KV.use hVy rfl) (KF.use hFy rfl)
  have hP : va_P (dC, dI) vwCl (XW cy x0 x v13 f14 ++ YW cy y0 r v16 f17 w18 g19) H := hP
  have hD : va_D (fun q : Nat => s.heap.size ≤ q) (XW cy x0 x v13 f14 ++ YW cy y0 r v16 f17 w18 g19) := hD
  refine lv_pop hx hb dL_law_295 rfl ?_
  refine lv_goto (tgt := 1413) hx hb dL_law_296 (by decide) ?_
  exact fin v13 f14 v16 f17 w18 g19 _ _ _ hIv13 hIv16 hCf17 hRf17 hpr.2 hP hD hS hl
set_option maxHeartbeats 4000000 in
set_option maxRecDepth 100000 in
theorem law_1 {p : Program} {l : Launch} {e : Env} {s : State} {m : MethodId} {below : List Frame} {meth : Method} {c : Code} {dC : Nat → ClassId} {dI : Nat → Nat → Nat} {cy : Nat → ClassId} {b L : Nat} {xs : Nat → Int32} {Q : State → Prop} {x0 y0 : Nat} {x r : Nat → Nat} (hx : p.tables.exec = Jvm.exec) (hb : c.code = code) (hml : c.maxLocals = 4) (hown : s.vm.findClass RL = some m.cls) (hts : ∀ w ∈ BIG, w.before #[Value.ref b] s = true) (hE : ENV (dC, dI) cy s) (hF : SRF (dC, dI) s) (hT : STR (dC, dI) (fun q : Nat => s.heap.size ≤ q) s s.heap) (hX : va_X b L xs s s.heap) (hbl : b < s.heap.size) (hL : L ≤ 3072) {v : Nat → Int32} {f : Nat → Nat → Int32} {v1 : Nat → Int32} {f1 : Nat → Nat → Int32} {w1 : Int64} {g1 : Nat → Int64} {i : Int32} (hi0 : 0 ≤ i.toInt) (hi6 : i.toInt + 6 ≤ L) {H : Heap} {locs : List Loc} {ls : Array Slot} (hIv : XI v) (hIv1 : YI v1) (hCf1 : YC f1) (hRf1 : progOK (f1 4) (f1 5) (v1 9).toInt.toNat) (heq0 : FREL v f v1 f1) (hP : va_P (dC, dI) vwCl (XW cy x0 x v f ++ YW cy y0 r v1 f1 w1 g1) H) (hD : va_D (fun q : Nat => s.heap.size ≤ q) (XW cy x0 x v f ++ YW cy y0 r v1 f1 w1 g1)) (hS : va_S (fun q : Nat => s.heap.size ≤ q) s.heap H locs) (hl : lv_has ls 4 [(3, .int i), (2, .ref y0), (1, .ref x0), (0, .ref b)]) (fin : ∀ (v : Nat → Int32) (f : Nat → Nat → Int32) (v1 : Nat → Int32) (f1 : Nat → Nat → Int32) (w1 : Int64) (g1 : Nat → Int64) (H : Heap) (locs : List Loc) (ls : Array Slot), XI v → YI v1 → YC f1 → progOK (f1 4) (f1 5) (v1 9).toInt.toNat → FREL v f v1 f1 → va_P (dC, dI) vwCl (XW cy x0 x v f ++ YW cy y0 r v1 f1 w1 g1) H → va_D (fun q : Nat => s.heap.size ≤ q) (XW cy x0 x v f ++ YW cy y0 r v1 f1 w1 g1) → va_S (fun q : Nat => s.heap.size ≤ q) s.heap H locs → lv_has ls 4 [(3, .int i), (2, .ref y0), (1, .ref x0), (0, .ref b)] → W p l e room_1 s m #[Value.ref b] below meth c H locs 81 11738 Q (F0 m 1413 ls [])) : W p l e room_1 s m #[Value.ref b] below meth c H locs 81 11738 Q (F0 m 299 ls []) := by
  have hA : ∀ q : Nat, s.heap.size ≤ q → (fun q : Nat => s.heap.size ≤ q) q := fun _ h => h
  have hbA : ¬ (fun q : Nat => s.heap.size ≤ q) b := Nat.not_le.mpr hbl
  refine lv_aload_n hx hb dL_law_299 rfl (lv_at hl 2 rfl) ?_
  refine lv_aload_n hx hb dL_law_300 rfl (lv_at hl 3 rfl) ?_
  refine lv_iload_n hx hb dL_law_301 rfl (lv_at hl 0 rfl) ?_
  refine lv_iconst (v := 1) hx hb dL_law_302 (by decide) ?_
  refine lv_iadd hx hb dL_law_303 ?_
  refine lv_topi (fun t1 et1 => ?_)
  have rg2 := fb_rng i
  have zt1 : t1.toInt = i.toInt + 1 := by rw [et1]; exact add_i rfl (by decide) (by omega) (by omega)
  refine va_sld hx hb hX hbl hbA hS (vp_in_iff.mpr ⟨by omega, by omega⟩) dL_law_304 ?_
  refine lv_topi (fun a3 ea3 => ?_)
  refine caVi (n := 1) (wr := YW cy y0 r v1 f1 w1 g1) (rest := []) hx hb hml hown hts hE hP hD hS hA (sX_X10_end_1 0 l dC dI cy x0 x a3 v f hIv) k_534 k_535 k_536 k_101 k_537 hd_yX10_end ⟨Nat.le_of_ble_eq_true rfl, Nat.le_of_ble_eq_true rfl⟩ [0, 1, 2, 3, 4, 5, 6, 7, 8, 9, 10, 11, 12, 13, 14, 15, 16, 17, 18, 19, 20, 21, 22, 23, 24, 25, 26, 27, 28, 29, 30, 31, 32, 33, 34, 35, 36, 37, 38, 39, 40, 41] [42, 43, 44, 45, 46, 47, 48, 49, 50, 51, 52, 53, 54, 55, 56, 57, 58, 59, 60, 61, 62, 63, 64, 65, 66, 67, 68, 69, 70, 71, 72, 73, 74, 75, 76, 77, 78, 79, 80] (lx1 cy x0 y0 x r v f v1 f1 w1 g1) (lx2 cy x0 y0 x r v f v1 f1 w1 g1) (lx3 cy x0 y0 x r v f v1 f1 w1 g1) lx4 lx5 lx6 0 10 rfl rfl rfl hl.1 rfl (Nat.le_of_ble_eq_true rfl) dL_law_305 ⟨Nat.le_of_ble_eq_true rfl, Nat.le_of_ble_eq_true rfl⟩ (fun r4 u H locs hw hP hD hS => ?_)
  obtain ⟨v5, f6⟩ := u
  obtain ⟨hGx, hVx, hFx, hIv5, hk0x, hk7x, hk8x, hk9x, hk10x, hk31x, hk32x⟩ := hw
  have hP : va_P (dC, dI) vwCl (YW cy y0 r v1 f1 w1 g1 ++ XW cy x0 x v5 f6) H := hP
  have hD : va_D (fun q : Nat => s.heap.size ≤ q) (YW cy y0 r v1 f1 w1 g1 ++ XW cy x0 x v5 f6) := hD
  refine lv_pop hx hb dL_law_308 rfl ?_
  refine lv_aload_n hx hb dL_law_309 rfl (lv_at hl 1 rfl) ?_
  refine lv_aload_n hx hb dL_law_310 rfl (lv_at hl 3 rfl) ?_
  refine lv_iload_n hx hb dL_law_311 rfl (lv_at hl 0 rfl) ?_
  refine lv_iconst (v := 1) hx hb dL_law_312 (by decide) ?_
  refine lv_iadd hx hb dL_law_313 ?_
  refine tI (y := t1) et1.symm ?_
  refine va_sld hx hb hX hbl hbA hS (vp_in_iff.mpr ⟨by omega, by omega⟩) dL_law_314 ?_
  refine tI (y := a3) ea3.symm ?_
  refine caVi (n := 1) (wr := XW cy x0 x v5 f6) (rest := []) hx hb hml hown hts hE hP hD hS hA (sY_X11_end_1 0 l dC dI cy y0 r a3 v1 f1 w1 g1 hIv1 hCf1 hRf1) k_1567 k_1568 k_1569 k_114 k_1570 hd_yX11_end ⟨Nat.le_of_ble_eq_true rfl, Nat.le_of_ble_eq_true rfl⟩ [0, 1, 2, 3, 4, 5, 6, 7, 8, 9, 10, 11, 12, 13, 14, 15, 16, 17, 18, 19, 20, 21, 22, 23, 24, 25, 26, 27, 28, 29, 30, 31, 32, 33, 34, 35, 36, 37, 38] [39, 40, 41, 42, 43, 44, 45, 46, 47, 48, 49, 50, 51, 52, 53, 54, 55, 56, 57, 58, 59, 60, 61, 62, 63, 64, 65, 66, 67, 68, 69, 70, 71, 72, 73, 74, 75, 76, 77, 78, 79, 80] (ly1 cy x0 y0 x r v5 f6 v1 f1 w1 g1) (ly2 cy x0 y0 x r v5 f6 v1 f1 w1 g1) (ly3 cy x0 y0 x r v5 f6 v1 f1 w1 g1) ly4 ly5 ly6 0 11 rfl rfl rfl hl.1 rfl (Nat.le_of_ble_eq_true rfl) dL_law_315 ⟨Nat.le_of_ble_eq_true rfl, Nat.le_of_ble_eq_true rfl⟩ (fun r7 u H locs hw hP hD hS => ?_)
  obtain ⟨v8, f9, w10, g11⟩ := u
  obtain ⟨hGy, hVy, hFy, hIv8, hCf9, hRf9, hk1y, hk2y, hk3y, hk4y, hk5y, hk8y, hk9y, hk10y, hk13y, hk14y, hk15y, hk17y, hk18y, hk24y, hk25y, hk35y, hk36y, hk38y, hk39y⟩ := hw
  have hpr := FREL.ends heq0 hGx hGy (KV.use hVx rfl) (KF.use hFx rfl) (KV.use hVy rfl) (KF.use hFy rfl)
  have hP : va_P (dC, dI) vwCl (XW cy x0 x v5 f6 ++ YW cy y0 r v8 f9 w10 g11) H := hP
  have hD : va_D (fun q : Nat => s.heap.size ≤ q) (XW cy x0 x v5 f6 ++ YW cy y0 r v8 f9 w10 g11) := hD
  refine lv_pop hx hb dL_law_318 rfl ?_
  refine lv_goto (tgt := 1413) hx hb dL_law_319 (by decide) ?_
  exact fin v5 f6 v8 f9 w10 g11 _ _ _ hIv5 hIv8 hCf9 hRf9 hpr.2 hP hD hS hl
set_option maxHeartbeats 4000000 in
set_option maxRecDepth 100000 in
theorem law_2 {p : Program} {l : Launch} {e : Env} {s : State} {m : MethodId} {below : List Frame} {meth : Method} {c : Code} {dC : Nat → ClassId} {dI : Nat → Nat → Nat} {cy : Nat → ClassId} {b L : Nat} {xs : Nat → Int32} {Q : State → Prop} {x0 y0 : Nat} {x r : Nat → Nat} (hx : p.tables.exec = Jvm.exec) (hb : c.code = code) (hml : c.maxLocals = 4) (hown : s.vm.findClass RL = some m.cls) (hts : ∀ w ∈ BIG, w.before #[Value.ref b] s = true) (hE : ENV (dC, dI) cy s) (hF : SRF (dC, dI) s) (hT : STR (dC, dI) (fun q : Nat => s.heap.size ≤ q) s s.heap) (hX : va_X b L xs s s.heap) (hbl : b < s.heap.size) (hL : L ≤ 3072) {v : Nat → Int32} {f : Nat → Nat → Int32} {v1 : Nat → Int32} {f1 : Nat → Nat → Int32} {w1 : Int64} {g1 : Nat → Int64} {i : Int32} (hi0 : 0 ≤ i.toInt) (hi6 : i.toInt + 6 ≤ L) {H : Heap} {locs : List Loc} {ls : Array Slot} (hIv : XI v) (hIv1 : YI v1) (hCf1 : YC f1) (hRf1 : progOK (f1 4) (f1 5) (v1 9).toInt.toNat) (heq0 : FREL v f v1 f1) (hP : va_P (dC, dI) vwCl (XW cy x0 x v f ++ YW cy y0 r v1 f1 w1 g1) H) (hD : va_D (fun q : Nat => s.heap.size ≤ q) (XW cy x0 x v f ++ YW cy y0 r v1 f1 w1 g1)) (hS : va_S (fun q : Nat => s.heap.size ≤ q) s.heap H locs) (hl : lv_has ls 4 [(3, .int i), (2, .ref y0), (1, .ref x0), (0, .ref b)]) (fin : ∀ (v : Nat → Int32) (f : Nat → Nat → Int32) (v1 : Nat → Int32) (f1 : Nat → Nat → Int32) (w1 : Int64) (g1 : Nat → Int64) (H : Heap) (locs : List Loc) (ls : Array Slot), XI v → YI v1 → YC f1 → progOK (f1 4) (f1 5) (v1 9).toInt.toNat → FREL v f v1 f1 → va_P (dC, dI) vwCl (XW cy x0 x v f ++ YW cy y0 r v1 f1 w1 g1) H → va_D (fun q : Nat => s.heap.size ≤ q) (XW cy x0 x v f ++ YW cy y0 r v1 f1 w1 g1) → va_S (fun q : Nat => s.heap.size ≤ q) s.heap H locs → lv_has ls 4 [(3, .int i), (2, .ref y0), (1, .ref x0), (0, .ref b)] → W p l e room_1 s m #[Value.ref b] below meth c H locs 81 11738 Q (F0 m 1413 ls [])) : W p l e room_1 s m #[Value.ref b] below meth c H locs 81 11738 Q (F0 m 322 ls []) := by
  have hA : ∀ q : Nat, s.heap.size ≤ q → (fun q : Nat => s.heap.size ≤ q) q := fun _ h => h
  have hbA : ¬ (fun q : Nat => s.heap.size ≤ q) b := Nat.not_le.mpr hbl
  refine lv_aload_n hx hb dL_law_322 rfl (lv_at hl 2 rfl) ?_
  refine casVi (n := 0) (wr := YW cy y0 r v1 f1 w1 g1) (rest := []) hx hb hml hown hts hE hP hD hS hA hF hT (sX_X10_regiment_1 0 l dC dI cy x0 x  v f hIv) k_538 k_539 k_540 k_101 k_541 hd_yX10_regiment ⟨Nat.le_of_ble_eq_true rfl, Nat.le_of_ble_eq_true rfl⟩ [0, 1, 2, 3, 4, 5, 6, 7, 8, 9, 10, 11, 12, 13, 14, 15, 16, 17, 18, 19, 20, 21, 22, 23, 24, 25, 26, 27, 28, 29, 30, 31, 32, 33, 34, 35, 36, 37, 38, 39, 40, 41] [42, 43, 44, 45, 46, 47, 48, 49, 50, 51, 52, 53, 54, 55, 56, 57, 58, 59, 60, 61, 62, 63, 64, 65, 66, 67, 68, 69, 70, 71, 72, 73, 74, 75, 76, 77, 78, 79, 80] (lx1 cy x0 y0 x r v f v1 f1 w1 g1) (lx2 cy x0 y0 x r v f v1 f1 w1 g1) (lx3 cy x0 y0 x r v f v1 f1 w1 g1) lx4 lx5 lx6 0 10 rfl rfl rfl hl.1 rfl (Nat.le_of_ble_eq_true rfl) dL_law_323 ⟨Nat.le_of_ble_eq_true rfl, Nat.le_of_ble_eq_true rfl⟩ (fun r1 u H locs hw hP hD hS => ?_)
  obtain ⟨v2, f3⟩ := u
  obtain ⟨hGx, hVx, hFx, hIv2, hk0x, hz0x, hz1x⟩ := hw
  have hP : va_P (dC, dI) vwCl (YW cy y0 r v1 f1 w1 g1 ++ XW cy x0 x v2 f3) H := hP
  have hD : va_D (fun q : Nat => s.heap.size ≤ q) (YW cy y0 r v1 f1 w1 g1 ++ XW cy x0 x v2 f3) := hD
  refine lv_pop hx hb dL_law_326 rfl ?_
  refine lv_aload_n hx hb dL_law_327 rfl (lv_at hl 1 rfl) ?_
  refine caVi (n := 0) (wr := XW cy x0 x v2 f3) (rest := []) hx hb hml hown hts hE hP hD hS hA (sY_X11_regiment_1 0 l dC dI cy y0 r  v1 f1 w1 g1 hIv1 hCf1 hRf1) k_1571 k_1572 k_1573 k_114 k_1574 hd_yX11_regiment ⟨Nat.le_of_ble_eq_true rfl, Nat.le_of_ble_eq_true rfl⟩ [0, 1, 2, 3, 4, 5, 6, 7, 8, 9, 10, 11, 12, 13, 14, 15, 16, 17, 18, 19, 20, 21, 22, 23, 24, 25, 26, 27, 28, 29, 30, 31, 32, 33, 34, 35, 36, 37, 38] [39, 40, 41, 42, 43, 44, 45, 46, 47, 48, 49, 50, 51, 52, 53, 54, 55, 56, 57, 58, 59, 60, 61, 62, 63, 64, 65, 66, 67, 68, 69, 70, 71, 72, 73, 74, 75, 76, 77, 78, 79, 80] (ly1 cy x0 y0 x r v2 f3 v1 f1 w1 g1) (ly2 cy x0 y0 x r v2 f3 v1 f1 w1 g1) (ly3 cy x0 y0 x r v2 f3 v1 f1 w1 g1) ly4 ly5 ly6 0 11 rfl rfl rfl hl.1 rfl (Nat.le_of_ble_eq_true rfl) dL_law_328 ⟨Nat.le_of_ble_eq_true rfl, Nat.le_of_ble_eq_true rfl⟩ (fun r4 u H locs hw hP hD hS => ?_)
  obtain ⟨v5, f6, w7, g8⟩ := u
  obtain ⟨hGy, hVy, hFy, hIv5, hCf6, hRf6, hk39y, hz0y, hz1y⟩ := hw
  have hpr := FREL.reg heq0 hGx hz0x hk0x hz1x hGy hz0y hk39y hz1y
  have hP : va_P (dC, dI) vwCl (XW cy x0 x v2 f3 ++ YW cy y0 r v5 f6 w7 g8) H := hP
  have hD : va_D (fun q : Nat => s.heap.size ≤ q) (XW cy x0 x v2 f3 ++ YW cy y0 r v5 f6 w7 g8) := hD
  refine lv_pop hx hb dL_law_331 rfl ?_
  refine lv_goto (tgt := 1413) hx hb dL_law_332 (by decide) ?_
  exact fin v2 f3 v5 f6 w7 g8 _ _ _ hIv2 hIv5 hCf6 hRf6 hpr.2 hP hD hS hl
set_option maxHeartbeats 4000000 in
set_option maxRecDepth 100000 in
theorem law_3 {p : Program} {l : Launch} {e : Env} {s : State} {m : MethodId} {below : List Frame} {meth : Method} {c : Code} {dC : Nat → ClassId} {dI : Nat → Nat → Nat} {cy : Nat → ClassId} {b L : Nat} {xs : Nat → Int32} {Q : State → Prop} {x0 y0 : Nat} {x r : Nat → Nat} (hx : p.tables.exec = Jvm.exec) (hb : c.code = code) (hml : c.maxLocals = 4) (hown : s.vm.findClass RL = some m.cls) (hts : ∀ w ∈ BIG, w.before #[Value.ref b] s = true) (hE : ENV (dC, dI) cy s) (hF : SRF (dC, dI) s) (hT : STR (dC, dI) (fun q : Nat => s.heap.size ≤ q) s s.heap) (hX : va_X b L xs s s.heap) (hbl : b < s.heap.size) (hL : L ≤ 3072) {v : Nat → Int32} {f : Nat → Nat → Int32} {v1 : Nat → Int32} {f1 : Nat → Nat → Int32} {w1 : Int64} {g1 : Nat → Int64} {i : Int32} (hi0 : 0 ≤ i.toInt) (hi6 : i.toInt + 6 ≤ L) {H : Heap} {locs : List Loc} {ls : Array Slot} (hIv : XI v) (hIv1 : YI v1) (hCf1 : YC f1) (hRf1 : progOK (f1 4) (f1 5) (v1 9).toInt.toNat) (heq0 : FREL v f v1 f1) (hP : va_P (dC, dI) vwCl (XW cy x0 x v f ++ YW cy y0 r v1 f1 w1 g1) H) (hD : va_D (fun q : Nat => s.heap.size ≤ q) (XW cy x0 x v f ++ YW cy y0 r v1 f1 w1 g1)) (hS : va_S (fun q : Nat => s.heap.size ≤ q) s.heap H locs) (hl : lv_has ls 4 [(3, .int i), (2, .ref y0), (1, .ref x0), (0, .ref b)]) (fin : ∀ (v : Nat → Int32) (f : Nat → Nat → Int32) (v1 : Nat → Int32) (f1 : Nat → Nat → Int32) (w1 : Int64) (g1 : Nat → Int64) (H : Heap) (locs : List Loc) (ls : Array Slot), XI v → YI v1 → YC f1 → progOK (f1 4) (f1 5) (v1 9).toInt.toNat → FREL v f v1 f1 → va_P (dC, dI) vwCl (XW cy x0 x v f ++ YW cy y0 r v1 f1 w1 g1) H → va_D (fun q : Nat => s.heap.size ≤ q) (XW cy x0 x v f ++ YW cy y0 r v1 f1 w1 g1) → va_S (fun q : Nat => s.heap.size ≤ q) s.heap H locs → lv_has ls 4 [(3, .int i), (2, .ref y0), (1, .ref x0), (0, .ref b)] → W p l e room_1 s m #[Value.ref b] below meth c H locs 81 11738 Q (F0 m 1413 ls [])) : W p l e room_1 s m #[Value.ref b] below meth c H locs 81 11738 Q (F0 m 335 ls []) := by
  have hA : ∀ q : Nat, s.heap.size ≤ q → (fun q : Nat => s.heap.size ≤ q) q := fun _ h => h
  have hbA : ¬ (fun q : Nat => s.heap.size ≤ q) b := Nat.not_le.mpr hbl
  refine lv_aload_n hx hb dL_law_335 rfl (lv_at hl 2 rfl) ?_
  refine lv_aload_n hx hb dL_law_336 rfl (lv_at hl 3 rfl) ?_
  refine lv_iload_n hx hb dL_law_337 rfl (lv_at hl 0 rfl) ?_
  refine lv_iconst (v := 1) hx hb dL_law_338 (by decide) ?_
  refine lv_iadd hx hb dL_law_339 ?_
  refine lv_topi (fun t1 et1 => ?_)
  have rg2 := fb_rng i
  have zt1 : t1.toInt = i.toInt + 1 := by rw [et1]; exact add_i rfl (by decide) (by omega) (by omega)
  refine va_sld hx hb hX hbl hbA hS (vp_in_iff.mpr ⟨by omega, by omega⟩) dL_law_340 ?_
  refine lv_topi (fun a3 ea3 => ?_)
  refine caVi (n := 1) (wr := YW cy y0 r v1 f1 w1 g1) (rest := []) hx hb hml hown hts hE hP hD hS hA (sX_X10_fault_1 0 l dC dI cy x0 x a3 v f hIv) k_794 k_795 k_796 k_101 k_797 hd_yX10_fault ⟨Nat.le_of_ble_eq_true rfl, Nat.le_of_ble_eq_true rfl⟩ [0, 1, 2, 3, 4, 5, 6, 7, 8, 9, 10, 11, 12, 13, 14, 15, 16, 17, 18, 19, 20, 21, 22, 23, 24, 25, 26, 27, 28, 29, 30, 31, 32, 33, 34, 35, 36, 37, 38, 39, 40, 41] [42, 43, 44, 45, 46, 47, 48, 49, 50, 51, 52, 53, 54, 55, 56, 57, 58, 59, 60, 61, 62, 63, 64, 65, 66, 67, 68, 69, 70, 71, 72, 73, 74, 75, 76, 77, 78, 79, 80] (lx1 cy x0 y0 x r v f v1 f1 w1 g1) (lx2 cy x0 y0 x r v f v1 f1 w1 g1) (lx3 cy x0 y0 x r v f v1 f1 w1 g1) lx4 lx5 lx6 0 10 rfl rfl rfl hl.1 rfl (Nat.le_of_ble_eq_true rfl) dL_law_341 ⟨Nat.le_of_ble_eq_true rfl, Nat.le_of_ble_eq_true rfl⟩ (fun r4 u H locs hw hP hD hS => ?_)
  have hGx := hw
  have hP : va_P (dC, dI) vwCl (YW cy y0 r v1 f1 w1 g1 ++ XW cy x0 x v f) H := hP
  have hD : va_D (fun q : Nat => s.heap.size ≤ q) (YW cy y0 r v1 f1 w1 g1 ++ XW cy x0 x v f) := hD
  refine lv_pop hx hb dL_law_344 rfl ?_
  refine lv_aload_n hx hb dL_law_345 rfl (lv_at hl 1 rfl) ?_
  refine lv_aload_n hx hb dL_law_346 rfl (lv_at hl 3 rfl) ?_
  refine lv_iload_n hx hb dL_law_347 rfl (lv_at hl 0 rfl) ?_
  refine lv_iconst (v := 1) hx hb dL_law_348 (by decide) ?_
  refine lv_iadd hx hb dL_law_349 ?_
  refine tI (y := t1) et1.symm ?_
  refine va_sld hx hb hX hbl hbA hS (vp_in_iff.mpr ⟨by omega, by omega⟩) dL_law_350 ?_
  refine tI (y := a3) ea3.symm ?_
  refine caVi (n := 1) (wr := XW cy x0 x v f) (rest := []) hx hb hml hown hts hE hP hD hS hA (sY_X11_fault_1 0 l dC dI cy y0 r a3 v1 f1 w1 g1 hIv1 hCf1 hRf1) k_1724 k_1725 k_1726 k_114 k_1727 hd_yX11_fault ⟨Nat.le_of_ble_eq_true rfl, Nat.le_of_ble_eq_true rfl⟩ [0, 1, 2, 3, 4, 5, 6, 7, 8, 9, 10, 11, 12, 13, 14, 15, 16, 17, 18, 19, 20, 21, 22, 23, 24, 25, 26, 27, 28, 29, 30, 31, 32, 33, 34, 35, 36, 37, 38] [39, 40, 41, 42, 43, 44, 45, 46, 47, 48, 49, 50, 51, 52, 53, 54, 55, 56, 57, 58, 59, 60, 61, 62, 63, 64, 65, 66, 67, 68, 69, 70, 71, 72, 73, 74, 75, 76, 77, 78, 79, 80] (ly1 cy x0 y0 x r v f v1 f1 w1 g1) (ly2 cy x0 y0 x r v f v1 f1 w1 g1) (ly3 cy x0 y0 x r v f v1 f1 w1 g1) ly4 ly5 ly6 0 11 rfl rfl rfl hl.1 rfl (Nat.le_of_ble_eq_true rfl) dL_law_351 ⟨Nat.le_of_ble_eq_true rfl, Nat.le_of_ble_eq_true rfl⟩ (fun r5 u H locs hw hP hD hS => ?_)
  have hGy := hw
  have hP : va_P (dC, dI) vwCl (XW cy x0 x v f ++ YW cy y0 r v1 f1 w1 g1) H := hP
  have hD : va_D (fun q : Nat => s.heap.size ≤ q) (XW cy x0 x v f ++ YW cy y0 r v1 f1 w1 g1) := hD
  refine lv_pop hx hb dL_law_354 rfl ?_
  refine lv_goto (tgt := 1413) hx hb dL_law_355 (by decide) ?_
  exact fin v f v1 f1 w1 g1 _ _ _ hIv hIv1 hCf1 hRf1 (FREL.keep heq0 (fun _ _ => rfl) (fun _ _ => rfl) (fun _ _ => rfl) (fun _ _ => rfl)) hP hD hS hl
set_option maxHeartbeats 4000000 in
set_option maxRecDepth 100000 in
theorem law_4 {p : Program} {l : Launch} {e : Env} {s : State} {m : MethodId} {below : List Frame} {meth : Method} {c : Code} {dC : Nat → ClassId} {dI : Nat → Nat → Nat} {cy : Nat → ClassId} {b L : Nat} {xs : Nat → Int32} {Q : State → Prop} {x0 y0 : Nat} {x r : Nat → Nat} (hx : p.tables.exec = Jvm.exec) (hb : c.code = code) (hml : c.maxLocals = 4) (hown : s.vm.findClass RL = some m.cls) (hts : ∀ w ∈ BIG, w.before #[Value.ref b] s = true) (hE : ENV (dC, dI) cy s) (hF : SRF (dC, dI) s) (hT : STR (dC, dI) (fun q : Nat => s.heap.size ≤ q) s s.heap) (hX : va_X b L xs s s.heap) (hbl : b < s.heap.size) (hL : L ≤ 3072) {v : Nat → Int32} {f : Nat → Nat → Int32} {v1 : Nat → Int32} {f1 : Nat → Nat → Int32} {w1 : Int64} {g1 : Nat → Int64} {i : Int32} (hi0 : 0 ≤ i.toInt) (hi6 : i.toInt + 6 ≤ L) {H : Heap} {locs : List Loc} {ls : Array Slot} (hIv : XI v) (hIv1 : YI v1) (hCf1 : YC f1) (hRf1 : progOK (f1 4) (f1 5) (v1 9).toInt.toNat) (heq0 : FREL v f v1 f1) (hP : va_P (dC, dI) vwCl (XW cy x0 x v f ++ YW cy y0 r v1 f1 w1 g1) H) (hD : va_D (fun q : Nat => s.heap.size ≤ q) (XW cy x0 x v f ++ YW cy y0 r v1 f1 w1 g1)) (hS : va_S (fun q : Nat => s.heap.size ≤ q) s.heap H locs) (hl : lv_has ls 4 [(3, .int i), (2, .ref y0), (1, .ref x0), (0, .ref b)]) (fin : ∀ (v : Nat → Int32) (f : Nat → Nat → Int32) (v1 : Nat → Int32) (f1 : Nat → Nat → Int32) (w1 : Int64) (g1 : Nat → Int64) (H : Heap) (locs : List Loc) (ls : Array Slot), XI v → YI v1 → YC f1 → progOK (f1 4) (f1 5) (v1 9).toInt.toNat → FREL v f v1 f1 → va_P (dC, dI) vwCl (XW cy x0 x v f ++ YW cy y0 r v1 f1 w1 g1) H → va_D (fun q : Nat => s.heap.size ≤ q) (XW cy x0 x v f ++ YW cy y0 r v1 f1 w1 g1) → va_S (fun q : Nat => s.heap.size ≤ q) s.heap H locs → lv_has ls 4 [(3, .int i), (2, .ref y0), (1, .ref x0), (0, .ref b)] → W p l e room_1 s m #[Value.ref b] below meth c H locs 81 11738 Q (F0 m 1413 ls [])) : W p l e room_1 s m #[Value.ref b] below meth c H locs 81 11738 Q (F0 m 358 ls []) := by
  have hA : ∀ q : Nat, s.heap.size ≤ q → (fun q : Nat => s.heap.size ≤ q) q := fun _ h => h
  have hbA : ¬ (fun q : Nat => s.heap.size ≤ q) b := Nat.not_le.mpr hbl
  refine lv_aload_n hx hb dL_law_358 rfl (lv_at hl 2 rfl) ?_
  refine lv_aload_n hx hb dL_law_359 rfl (lv_at hl 3 rfl) ?_
  refine lv_iload_n hx hb dL_law_360 rfl (lv_at hl 0 rfl) ?_
  refine lv_iconst (v := 1) hx hb dL_law_361 (by decide) ?_
  refine lv_iadd hx hb dL_law_362 ?_
  refine lv_topi (fun t1 et1 => ?_)
  have rg2 := fb_rng i
  have zt1 : t1.toInt = i.toInt + 1 := by rw [et1]; exact add_i rfl (by decide) (by omega) (by omega)
  refine va_sld hx hb hX hbl hbA hS (vp_in_iff.mpr ⟨by omega, by omega⟩) dL_law_363 ?_
  refine lv_topi (fun a3 ea3 => ?_)
  refine lv_aload_n hx hb dL_law_364 rfl (lv_at hl 3 rfl) ?_
  refine lv_iload_n hx hb dL_law_365 rfl (lv_at hl 0 rfl) ?_
  refine lv_iconst (v := 2) hx hb dL_law_366 (by decide) ?_
  refine lv_iadd hx hb dL_law_367 ?_
  refine lv_topi (fun t4 et4 => ?_)
  have zt4 : t4.toInt = i.toInt + 2 := by rw [et4]; exact add_i rfl (by decide) (by omega) (by omega)
  refine va_sld hx hb hX hbl hbA hS (vp_in_iff.mpr ⟨by omega, by omega⟩) dL_law_368 ?_
  refine lv_topi (fun a5 ea5 => ?_)
  refine caVi (n := 2) (wr := YW cy y0 r v1 f1 w1 g1) (rest := []) hx hb hml hown hts hE hP hD hS hA (sX_X10_man_1 l dC dI cy x0 x a3 a5 v f hIv) k_798 k_799 k_800 k_101 k_801 hd_yX10_man ⟨Nat.le_of_ble_eq_true rfl, Nat.le_of_ble_eq_true rfl⟩ [0, 1, 2, 3, 4, 5, 6, 7, 8, 9, 10, 11, 12, 13, 14, 15, 16, 17, 18, 19, 20, 21, 22, 23, 24, 25, 26, 27, 28, 29, 30, 31, 32, 33, 34, 35, 36, 37, 38, 39, 40, 41] [42, 43, 44, 45, 46, 47, 48, 49, 50, 51, 52, 53, 54, 55, 56, 57, 58, 59, 60, 61, 62, 63, 64, 65, 66, 67, 68, 69, 70, 71, 72, 73, 74, 75, 76, 77, 78, 79, 80] (lx1 cy x0 y0 x r v f v1 f1 w1 g1) (lx2 cy x0 y0 x r v f v1 f1 w1 g1) (lx3 cy x0 y0 x r v f v1 f1 w1 g1) lx4 lx5 lx6 0 10 rfl rfl rfl hl.1 rfl (Nat.le_of_ble_eq_true rfl) dL_law_369 ⟨Nat.le_of_ble_eq_true rfl, Nat.le_of_ble_eq_true rfl⟩ (fun r6 u H locs hw hP hD hS => ?_)
  obtain ⟨v7, f8⟩ := u
  obtain ⟨hVx, hFx, hIv7, hk0x, hk1x, hk7x, hk8x, hk9x, hk10x, hk31x, hk32x⟩ := hw
  have hP : va_P (dC, dI) vwCl (YW cy y0 r v1 f1 w1 g1 ++ XW cy x0 x v7 f8) H := hP
  have hD : va_D (fun q : Nat => s.heap.size ≤ q) (YW cy y0 r v1 f1 w1 g1 ++ XW cy x0 x v7 f8) := hD
  refine lv_pop hx hb dL_law_372 rfl ?_
  refine lv_aload_n hx hb dL_law_373 rfl (lv_at hl 1 rfl) ?_
  refine lv_aload_n hx hb dL_law_374 rfl (lv_at hl 3 rfl) ?_
  refine lv_iload_n hx hb dL_law_375 rfl (lv_at hl 0 rfl) ?_
  refine lv_iconst (v := 1) hx hb dL_law_376 (by decide) ?_
  refine lv_iadd hx hb dL_law_377 ?_
  refine tI (y := t1) et1.symm ?_
  refine va_sld hx hb hX hbl hbA hS (vp_in_iff.mpr ⟨by omega, by omega⟩) dL_law_378 ?_
  refine tI (y := a3) ea3.symm ?_
  refine lv_aload_n hx hb dL_law_379 rfl (lv_at hl 3 rfl) ?_
  refine lv_iload_n hx hb dL_law_380 rfl (lv_at hl 0 rfl) ?_
  refine lv_iconst (v := 2) hx hb dL_law_381 (by decide) ?_
  refine lv_iadd hx hb dL_law_382 ?_
  refine tI (y := t4) et4.symm ?_
  refine va_sld hx hb hX hbl hbA hS (vp_in_iff.mpr ⟨by omega, by omega⟩) dL_law_383 ?_
  refine tI (y := a5) ea5.symm ?_
  refine caVi (n := 2) (wr := XW cy x0 x v7 f8) (rest := []) hx hb hml hown hts hE hP hD hS hA (sY_X11_man_1 l dC dI cy y0 r a3 a5 v1 f1 w1 g1 hIv1 hCf1 hRf1) k_1728 k_1729 k_1730 k_114 k_1731 hd_yX11_man ⟨Nat.le_of_ble_eq_true rfl, Nat.le_of_ble_eq_true rfl⟩ [0, 1, 2, 3, 4, 5, 6, 7, 8, 9, 10, 11, 12, 13, 14, 15, 16, 17, 18, 19, 20, 21, 22, 23, 24, 25, 26, 27, 28, 29, 30, 31, 32, 33, 34, 35, 36, 37, 38] [39, 40, 41, 42, 43, 44, 45, 46, 47, 48, 49, 50, 51, 52, 53, 54, 55, 56, 57, 58, 59, 60, 61, 62, 63, 64, 65, 66, 67, 68, 69, 70, 71, 72, 73, 74, 75, 76, 77, 78, 79, 80] (ly1 cy x0 y0 x r v7 f8 v1 f1 w1 g1) (ly2 cy x0 y0 x r v7 f8 v1 f1 w1 g1) (ly3 cy x0 y0 x r v7 f8 v1 f1 w1 g1) ly4 ly5 ly6 0 11 rfl rfl rfl hl.1 rfl (Nat.le_of_ble_eq_true rfl) dL_law_384 ⟨Nat.le_of_ble_eq_true rfl, Nat.le_of_ble_eq_true rfl⟩ (fun r9 u H locs hw hP hD hS => ?_)
  obtain ⟨v10, f11, w12, g13⟩ := u
  obtain ⟨hVy, hFy, hIv10, hCf11, hRf11, hk0y, hk1y, hk2y, hk3y, hk4y, hk5y, hk8y, hk9y, hk10y, hk13y, hk14y, hk15y, hk17y, hk18y, hk24y, hk25y, hk35y, hk36y, hk38y, hk39y⟩ := hw
  have hP : va_P (dC, dI) vwCl (XW cy x0 x v7 f8 ++ YW cy y0 r v10 f11 w12 g13) H := hP
  have hD : va_D (fun q : Nat => s.heap.size ≤ q) (XW cy x0 x v7 f8 ++ YW cy y0 r v10 f11 w12 g13) := hD
  refine lv_pop hx hb dL_law_387 rfl ?_
  refine lv_goto (tgt := 1413) hx hb dL_law_388 (by decide) ?_
  exact fin v7 f8 v10 f11 w12 g13 _ _ _ hIv7 hIv10 hCf11 hRf11 (FREL.keep heq0 (KV.use hVx rfl) (KF.use hFx rfl) (KV.use hVy rfl) (KF.use hFy rfl)) hP hD hS hl
set_option maxHeartbeats 4000000 in
set_option maxRecDepth 100000 in
theorem law_5 {p : Program} {l : Launch} {e : Env} {s : State} {m : MethodId} {below : List Frame} {meth : Method} {c : Code} {dC : Nat → ClassId} {dI : Nat → Nat → Nat} {cy : Nat → ClassId} {b L : Nat} {xs : Nat → Int32} {Q : State → Prop} {x0 y0 : Nat} {x r : Nat → Nat} (hx : p.tables.exec = Jvm.exec) (hb : c.code = code) (hml : c.maxLocals = 4) (hown : s.vm.findClass RL = some m.cls) (hts : ∀ w ∈ BIG, w.before #[Value.ref b] s = true) (hE : ENV (dC, dI) cy s) (hF : SRF (dC, dI) s) (hT : STR (dC, dI) (fun q : Nat => s.heap.size ≤ q) s s.heap) (hX : va_X b L xs s s.heap) (hbl : b < s.heap.size) (hL : L ≤ 3072) {v : Nat → Int32} {f : Nat → Nat → Int32} {v1 : Nat → Int32} {f1 : Nat → Nat → Int32} {w1 : Int64} {g1 : Nat → Int64} {i : Int32} (hi0 : 0 ≤ i.toInt) (hi6 : i.toInt + 6 ≤ L) {H : Heap} {locs : List Loc} {ls : Array Slot} (hIv : XI v) (hIv1 : YI v1) (hCf1 : YC f1) (hRf1 : progOK (f1 4) (f1 5) (v1 9).toInt.toNat) (heq0 : FREL v f v1 f1) (hP : va_P (dC, dI) vwCl (XW cy x0 x v f ++ YW cy y0 r v1 f1 w1 g1) H) (hD : va_D (fun q : Nat => s.heap.size ≤ q) (XW cy x0 x v f ++ YW cy y0 r v1 f1 w1 g1)) (hS : va_S (fun q : Nat => s.heap.size ≤ q) s.heap H locs) (hl : lv_has ls 4 [(3, .int i), (2, .ref y0), (1, .ref x0), (0, .ref b)]) (fin : ∀ (v : Nat → Int32) (f : Nat → Nat → Int32) (v1 : Nat → Int32) (f1 : Nat → Nat → Int32) (w1 : Int64) (g1 : Nat → Int64) (H : Heap) (locs : List Loc) (ls : Array Slot), XI v → YI v1 → YC f1 → progOK (f1 4) (f1 5) (v1 9).toInt.toNat → FREL v f v1 f1 → va_P (dC, dI) vwCl (XW cy x0 x v f ++ YW cy y0 r v1 f1 w1 g1) H → va_D (fun q : Nat => s.heap.size ≤ q) (XW cy x0 x v f ++ YW cy y0 r v1 f1 w1 g1) → va_S (fun q : Nat => s.heap.size ≤ q) s.heap H locs → lv_has ls 4 [(3, .int i), (2, .ref y0), (1, .ref x0), (0, .ref b)] → W p l e room_1 s m #[Value.ref b] below meth c H locs 81 11738 Q (F0 m 1413 ls [])) : W p l e room_1 s m #[Value.ref b] below meth c H locs 81 11738 Q (F0 m 391 ls []) := by
  have hA : ∀ q : Nat, s.heap.size ≤ q → (fun q : Nat => s.heap.size ≤ q) q := fun _ h => h
  have hbA : ¬ (fun q : Nat => s.heap.size ≤ q) b := Nat.not_le.mpr hbl
  refine lv_aload_n hx hb dL_law_391 rfl (lv_at hl 2 rfl) ?_
  refine lv_aload_n hx hb dL_law_392 rfl (lv_at hl 3 rfl) ?_
  refine lv_iload_n hx hb dL_law_393 rfl (lv_at hl 0 rfl) ?_
  refine lv_iconst (v := 1) hx hb dL_law_394 (by decide) ?_
  refine lv_iadd hx hb dL_law_395 ?_
  refine lv_topi (fun t1 et1 => ?_)
  have rg2 := fb_rng i
  have zt1 : t1.toInt = i.toInt + 1 := by rw [et1]; exact add_i rfl (by decide) (by omega) (by omega)
  refine va_sld hx hb hX hbl hbA hS (vp_in_iff.mpr ⟨by omega, by omega⟩) dL_law_396 ?_
  refine lv_topi (fun a3 ea3 => ?_)
  refine lv_aload_n hx hb dL_law_397 rfl (lv_at hl 3 rfl) ?_
  refine lv_iload_n hx hb dL_law_398 rfl (lv_at hl 0 rfl) ?_
  refine lv_iconst (v := 2) hx hb dL_law_399 (by decide) ?_
  refine lv_iadd hx hb dL_law_400 ?_
  refine lv_topi (fun t4 et4 => ?_)
  have zt4 : t4.toInt = i.toInt + 2 := by rw [et4]; exact add_i rfl (by decide) (by omega) (by omega)
  refine va_sld hx hb hX hbl hbA hS (vp_in_iff.mpr ⟨by omega, by omega⟩) dL_law_401 ?_
  refine lv_topi (fun a5 ea5 => ?_)
  refine caVi (n := 2) (wr := YW cy y0 r v1 f1 w1 g1) (rest := []) hx hb hml hown hts hE hP hD hS hA (sX_X10_coat_1 l dC dI cy x0 x a3 a5 v f hIv) k_844 k_845 k_846 k_101 k_847 hd_yX10_coat ⟨Nat.le_of_ble_eq_true rfl, Nat.le_of_ble_eq_true rfl⟩ [0, 1, 2, 3, 4, 5, 6, 7, 8, 9, 10, 11, 12, 13, 14, 15, 16, 17, 18, 19, 20, 21, 22, 23, 24, 25, 26, 27, 28, 29, 30, 31, 32, 33, 34, 35, 36, 37, 38, 39, 40, 41] [42, 43, 44, 45, 46, 47, 48, 49, 50, 51, 52, 53, 54, 55, 56, 57, 58, 59, 60, 61, 62, 63, 64, 65, 66, 67, 68, 69, 70, 71, 72, 73, 74, 75, 76, 77, 78, 79, 80] (lx1 cy x0 y0 x r v f v1 f1 w1 g1) (lx2 cy x0 y0 x r v f v1 f1 w1 g1) (lx3 cy x0 y0 x r v f v1 f1 w1 g1) lx4 lx5 lx6 0 10 rfl rfl rfl hl.1 rfl (Nat.le_of_ble_eq_true rfl) dL_law_402 ⟨Nat.le_of_ble_eq_true rfl, Nat.le_of_ble_eq_true rfl⟩ (fun r6 u H locs hw hP hD hS => ?_)
  have hP : va_P (dC, dI) vwCl (YW cy y0 r v1 f1 w1 g1 ++ XW cy x0 x v f) H := hP
  have hD : va_D (fun q : Nat => s.heap.size ≤ q) (YW cy y0 r v1 f1 w1 g1 ++ XW cy x0 x v f) := hD
  refine lv_pop hx hb dL_law_405 rfl ?_
  refine lv_aload_n hx hb dL_law_406 rfl (lv_at hl 1 rfl) ?_
  refine lv_aload_n hx hb dL_law_407 rfl (lv_at hl 3 rfl) ?_
  refine lv_iload_n hx hb dL_law_408 rfl (lv_at hl 0 rfl) ?_
  refine lv_iconst (v := 1) hx hb dL_law_409 (by decide) ?_
  refine lv_iadd hx hb dL_law_410 ?_
  refine tI (y := t1) et1.symm ?_
  refine va_sld hx hb hX hbl hbA hS (vp_in_iff.mpr ⟨by omega, by omega⟩) dL_law_411 ?_
  refine tI (y := a3) ea3.symm ?_
  refine lv_aload_n hx hb dL_law_412 rfl (lv_at hl 3 rfl) ?_
  refine lv_iload_n hx hb dL_law_413 rfl (lv_at hl 0 rfl) ?_
  refine lv_iconst (v := 2) hx hb dL_law_414 (by decide) ?_
  refine lv_iadd hx hb dL_law_415 ?_
  refine tI (y := t4) et4.symm ?_
  refine va_sld hx hb hX hbl hbA hS (vp_in_iff.mpr ⟨by omega, by omega⟩) dL_law_416 ?_
  refine tI (y := a5) ea5.symm ?_
  refine caVi (n := 2) (wr := XW cy x0 x v f) (rest := []) hx hb hml hown hts hE hP hD hS hA (sY_X11_coat_1 l dC dI cy y0 r a3 a5 v1 f1 w1 g1 hIv1 hCf1 hRf1) k_1767 k_1768 k_1769 k_114 k_1770 hd_yX11_coat ⟨Nat.le_of_ble_eq_true rfl, Nat.le_of_ble_eq_true rfl⟩ [0, 1, 2, 3, 4, 5, 6, 7, 8, 9, 10, 11, 12, 13, 14, 15, 16, 17, 18, 19, 20, 21, 22, 23, 24, 25, 26, 27, 28, 29, 30, 31, 32, 33, 34, 35, 36, 37, 38] [39, 40, 41, 42, 43, 44, 45, 46, 47, 48, 49, 50, 51, 52, 53, 54, 55, 56, 57, 58, 59, 60, 61, 62, 63, 64, 65, 66, 67, 68, 69, 70, 71, 72, 73, 74, 75, 76, 77, 78, 79, 80] (ly1 cy x0 y0 x r v f v1 f1 w1 g1) (ly2 cy x0 y0 x r v f v1 f1 w1 g1) (ly3 cy x0 y0 x r v f v1 f1 w1 g1) ly4 ly5 ly6 0 11 rfl rfl rfl hl.1 rfl (Nat.le_of_ble_eq_true rfl) dL_law_417 ⟨Nat.le_of_ble_eq_true rfl, Nat.le_of_ble_eq_true rfl⟩ (fun r7 u H locs hw hP hD hS => ?_)
  obtain ⟨v8, f9, w10, g11⟩ := u
  obtain ⟨hVy, hFy, hIv8, hCf9, hRf9, hk0y, hk1y, hk2y, hk3y, hk4y, hk5y, hk8y, hk9y, hk10y, hk13y, hk14y, hk15y, hk17y, hk18y, hk24y, hk25y, hk35y, hk36y, hk38y, hk39y⟩ := hw
  have hP : va_P (dC, dI) vwCl (XW cy x0 x v f ++ YW cy y0 r v8 f9 w10 g11) H := hP
  have hD : va_D (fun q : Nat => s.heap.size ≤ q) (XW cy x0 x v f ++ YW cy y0 r v8 f9 w10 g11) := hD
  refine lv_pop hx hb dL_law_420 rfl ?_
  refine lv_goto (tgt := 1413) hx hb dL_law_421 (by decide) ?_
  exact fin v f v8 f9 w10 g11 _ _ _ hIv hIv8 hCf9 hRf9 (FREL.keep heq0 (fun _ _ => rfl) (fun _ _ => rfl) (KV.use hVy rfl) (KF.use hFy rfl)) hP hD hS hl
set_option maxHeartbeats 4000000 in
set_option maxRecDepth 100000 in
theorem law_6 {p : Program} {l : Launch} {e : Env} {s : State} {m : MethodId} {below : List Frame} {meth : Method} {c : Code} {dC : Nat → ClassId} {dI : Nat → Nat → Nat} {cy : Nat → ClassId} {b L : Nat} {xs : Nat → Int32} {Q : State → Prop} {x0 y0 : Nat} {x r : Nat → Nat} (hx : p.tables.exec = Jvm.exec) (hb : c.code = code) (hml : c.maxLocals = 4) (hown : s.vm.findClass RL = some m.cls) (hts : ∀ w ∈ BIG, w.before #[Value.ref b] s = true) (hE : ENV (dC, dI) cy s) (hF : SRF (dC, dI) s) (hT : STR (dC, dI) (fun q : Nat => s.heap.size ≤ q) s s.heap) (hX : va_X b L xs s s.heap) (hbl : b < s.heap.size) (hL : L ≤ 3072) {v : Nat → Int32} {f : Nat → Nat → Int32} {v1 : Nat → Int32} {f1 : Nat → Nat → Int32} {w1 : Int64} {g1 : Nat → Int64} {i : Int32} (hi0 : 0 ≤ i.toInt) (hi6 : i.toInt + 6 ≤ L) {H : Heap} {locs : List Loc} {ls : Array Slot} (hIv : XI v) (hIv1 : YI v1) (hCf1 : YC f1) (hRf1 : progOK (f1 4) (f1 5) (v1 9).toInt.toNat) (heq0 : FREL v f v1 f1) (hP : va_P (dC, dI) vwCl (XW cy x0 x v f ++ YW cy y0 r v1 f1 w1 g1) H) (hD : va_D (fun q : Nat => s.heap.size ≤ q) (XW cy x0 x v f ++ YW cy y0 r v1 f1 w1 g1)) (hS : va_S (fun q : Nat => s.heap.size ≤ q) s.heap H locs) (hl : lv_has ls 4 [(3, .int i), (2, .ref y0), (1, .ref x0), (0, .ref b)]) (fin : ∀ (v : Nat → Int32) (f : Nat → Nat → Int32) (v1 : Nat → Int32) (f1 : Nat → Nat → Int32) (w1 : Int64) (g1 : Nat → Int64) (H : Heap) (locs : List Loc) (ls : Array Slot), XI v → YI v1 → YC f1 → progOK (f1 4) (f1 5) (v1 9).toInt.toNat → FREL v f v1 f1 → va_P (dC, dI) vwCl (XW cy x0 x v f ++ YW cy y0 r v1 f1 w1 g1) H → va_D (fun q : Nat => s.heap.size ≤ q) (XW cy x0 x v f ++ YW cy y0 r v1 f1 w1 g1) → va_S (fun q : Nat => s.heap.size ≤ q) s.heap H locs → lv_has ls 4 [(3, .int i), (2, .ref y0), (1, .ref x0), (0, .ref b)] → W p l e room_1 s m #[Value.ref b] below meth c H locs 81 11738 Q (F0 m 1413 ls [])) : W p l e room_1 s m #[Value.ref b] below meth c H locs 81 11738 Q (F0 m 424 ls []) := by
  have hA : ∀ q : Nat, s.heap.size ≤ q → (fun q : Nat => s.heap.size ≤ q) q := fun _ h => h
  have hbA : ¬ (fun q : Nat => s.heap.size ≤ q) b := Nat.not_le.mpr hbl
  refine lv_aload_n hx hb dL_law_424 rfl (lv_at hl 2 rfl) ?_
  refine lv_aload_n hx hb dL_law_425 rfl (lv_at hl 3 rfl) ?_
  refine lv_iload_n hx hb dL_law_426 rfl (lv_at hl 0 rfl) ?_
  refine lv_iconst (v := 1) hx hb dL_law_427 (by decide) ?_
  refine lv_iadd hx hb dL_law_428 ?_
  refine lv_topi (fun t1 et1 => ?_)
  have rg2 := fb_rng i
  have zt1 : t1.toInt = i.toInt + 1 := by rw [et1]; exact add_i rfl (by decide) (by omega) (by omega)
  refine va_sld hx hb hX hbl hbA hS (vp_in_iff.mpr ⟨by omega, by omega⟩) dL_law_429 ?_
  refine lv_topi (fun a3 ea3 => ?_)
  refine lv_aload_n hx hb dL_law_430 rfl (lv_at hl 3 rfl) ?_
  refine lv_iload_n hx hb dL_law_431 rfl (lv_at hl 0 rfl) ?_
  refine lv_iconst (v := 2) hx hb dL_law_432 (by decide) ?_
  refine lv_iadd hx hb dL_law_433 ?_
  refine lv_topi (fun t4 et4 => ?_)
  have zt4 : t4.toInt = i.toInt + 2 := by rw [et4]; exact add_i rfl (by decide) (by omega) (by omega)
  refine va_sld hx hb hX hbl hbA hS (vp_in_iff.mpr ⟨by omega, by omega⟩) dL_law_434 ?_
  refine lv_topi (fun a5 ea5 => ?_)
  refine caVi (n := 2) (wr := YW cy y0 r v1 f1 w1 g1) (rest := []) hx hb hml hown hts hE hP hD hS hA (sX_X10_misfit_1 0 l dC dI cy x0 x a3 a5 v f hIv) k_855 k_856 k_857 k_101 k_858 hd_yX10_misfit ⟨Nat.le_of_ble_eq_true rfl, Nat.le_of_ble_eq_true rfl⟩ [0, 1, 2, 3, 4, 5, 6, 7, 8, 9, 10, 11, 12, 13, 14, 15, 16, 17, 18, 19, 20, 21, 22, 23, 24, 25, 26, 27, 28, 29, 30, 31, 32, 33, 34, 35, 36, 37, 38, 39, 40, 41] [42, 43, 44, 45, 46, 47, 48, 49, 50, 51, 52, 53, 54, 55, 56, 57, 58, 59, 60, 61, 62, 63, 64, 65, 66, 67, 68, 69, 70, 71, 72, 73, 74, 75, 76, 77, 78, 79, 80] (lx1 cy x0 y0 x r v f v1 f1 w1 g1) (lx2 cy x0 y0 x r v f v1 f1 w1 g1) (lx3 cy x0 y0 x r v f v1 f1 w1 g1) lx4 lx5 lx6 0 10 rfl rfl rfl hl.1 rfl (Nat.le_of_ble_eq_true rfl) dL_law_435 ⟨Nat.le_of_ble_eq_true rfl, Nat.le_of_ble_eq_true rfl⟩ (fun r6 u H locs hw hP hD hS => ?_)
  obtain ⟨v7, f8⟩ := u
  obtain ⟨hGx, hVx, hFx, hIv7, hk0x, hk1x, hk7x, hk8x, hk9x, hk10x, hk31x, hk32x⟩ := hw
  have hP : va_P (dC, dI) vwCl (YW cy y0 r v1 f1 w1 g1 ++ XW cy x0 x v7 f8) H := hP
  have hD : va_D (fun q : Nat => s.heap.size ≤ q) (YW cy y0 r v1 f1 w1 g1 ++ XW cy x0 x v7 f8) := hD
  refine lv_pop hx hb dL_law_438 rfl ?_
  refine lv_aload_n hx hb dL_law_439 rfl (lv_at hl 1 rfl) ?_
  refine lv_aload_n hx hb dL_law_440 rfl (lv_at hl 3 rfl) ?_
  refine lv_iload_n hx hb dL_law_441 rfl (lv_at hl 0 rfl) ?_
  refine lv_iconst (v := 1) hx hb dL_law_442 (by decide) ?_
  refine lv_iadd hx hb dL_law_443 ?_
  refine tI (y := t1) et1.symm ?_
  refine va_sld hx hb hX hbl hbA hS (vp_in_iff.mpr ⟨by omega, by omega⟩) dL_law_444 ?_
  refine tI (y := a3) ea3.symm ?_
  refine lv_aload_n hx hb dL_law_445 rfl (lv_at hl 3 rfl) ?_
  refine lv_iload_n hx hb dL_law_446 rfl (lv_at hl 0 rfl) ?_
  refine lv_iconst (v := 2) hx hb dL_law_447 (by decide) ?_
  refine lv_iadd hx hb dL_law_448 ?_
  refine tI (y := t4) et4.symm ?_
  refine va_sld hx hb hX hbl hbA hS (vp_in_iff.mpr ⟨by omega, by omega⟩) dL_law_449 ?_
  refine tI (y := a5) ea5.symm ?_
  refine caVi (n := 2) (wr := XW cy x0 x v7 f8) (rest := []) hx hb hml hown hts hE hP hD hS hA (sY_X11_misfit_1 0 l dC dI cy y0 r a3 a5 v1 f1 w1 g1 hIv1 hCf1 hRf1) k_1779 k_1780 k_1781 k_114 k_1782 hd_yX11_misfit ⟨Nat.le_of_ble_eq_true rfl, Nat.le_of_ble_eq_true rfl⟩ [0, 1, 2, 3, 4, 5, 6, 7, 8, 9, 10, 11, 12, 13, 14, 15, 16, 17, 18, 19, 20, 21, 22, 23, 24, 25, 26, 27, 28, 29, 30, 31, 32, 33, 34, 35, 36, 37, 38] [39, 40, 41, 42, 43, 44, 45, 46, 47, 48, 49, 50, 51, 52, 53, 54, 55, 56, 57, 58, 59, 60, 61, 62, 63, 64, 65, 66, 67, 68, 69, 70, 71, 72, 73, 74, 75, 76, 77, 78, 79, 80] (ly1 cy x0 y0 x r v7 f8 v1 f1 w1 g1) (ly2 cy x0 y0 x r v7 f8 v1 f1 w1 g1) (ly3 cy x0 y0 x r v7 f8 v1 f1 w1 g1) ly4 ly5 ly6 0 11 rfl rfl rfl hl.1 rfl (Nat.le_of_ble_eq_true rfl) dL_law_450 ⟨Nat.le_of_ble_eq_true rfl, Nat.le_of_ble_eq_true rfl⟩ (fun r9 u H locs hw hP hD hS => ?_)
  obtain ⟨v10, f11, w12, g13⟩ := u
  obtain ⟨hGy, hVy, hFy, hIv10, hCf11, hRf11, hk0y, hk1y, hk2y, hk3y, hk4y, hk5y, hk8y, hk9y, hk10y, hk13y, hk14y, hk15y, hk17y, hk18y, hk24y, hk25y, hk35y, hk36y, hk38y, hk39y⟩ := hw
  have hP : va_P (dC, dI) vwCl (XW cy x0 x v7 f8 ++ YW cy y0 r v10 f11 w12 g13) H := hP
  have hD : va_D (fun q : Nat => s.heap.size ≤ q) (XW cy x0 x v7 f8 ++ YW cy y0 r v10 f11 w12 g13) := hD
  refine lv_pop hx hb dL_law_453 rfl ?_
  refine lv_goto (tgt := 1413) hx hb dL_law_454 (by decide) ?_
  exact fin v7 f8 v10 f11 w12 g13 _ _ _ hIv7 hIv10 hCf11 hRf11 (FREL.keep heq0 (KV.use hVx rfl) (KF.use hFx rfl) (KV.use hVy rfl) (KF.use hFy rfl)) hP hD hS hl
set_option maxHeartbeats 4000000 in
set_option maxRecDepth 100000 in
theorem law_7 {p : Program} {l : Launch} {e : Env} {s : State} {m : MethodId} {below : List Frame} {meth : Method} {c : Code} {dC : Nat → ClassId} {dI : Nat → Nat → Nat} {cy : Nat → ClassId} {b L : Nat} {xs : Nat → Int32} {Q : State → Prop} {x0 y0 : Nat} {x r : Nat → Nat} (hx : p.tables.exec = Jvm.exec) (hb : c.code = code) (hml : c.maxLocals = 4) (hown : s.vm.findClass RL = some m.cls) (hts : ∀ w ∈ BIG, w.before #[Value.ref b] s = true) (hE : ENV (dC, dI) cy s) (hF : SRF (dC, dI) s) (hT : STR (dC, dI) (fun q : Nat => s.heap.size ≤ q) s s.heap) (hX : va_X b L xs s s.heap) (hbl : b < s.heap.size) (hL : L ≤ 3072) {v : Nat → Int32} {f : Nat → Nat → Int32} {v1 : Nat → Int32} {f1 : Nat → Nat → Int32} {w1 : Int64} {g1 : Nat → Int64} {i : Int32} (hi0 : 0 ≤ i.toInt) (hi6 : i.toInt + 6 ≤ L) {H : Heap} {locs : List Loc} {ls : Array Slot} (hIv : XI v) (hIv1 : YI v1) (hCf1 : YC f1) (hRf1 : progOK (f1 4) (f1 5) (v1 9).toInt.toNat) (heq0 : FREL v f v1 f1) (hP : va_P (dC, dI) vwCl (XW cy x0 x v f ++ YW cy y0 r v1 f1 w1 g1) H) (hD : va_D (fun q : Nat => s.heap.size ≤ q) (XW cy x0 x v f ++ YW cy y0 r v1 f1 w1 g1)) (hS : va_S (fun q : Nat => s.heap.size ≤ q) s.heap H locs) (hl : lv_has ls 4 [(3, .int i), (2, .ref y0), (1, .ref x0), (0, .ref b)]) (fin : ∀ (v : Nat → Int32) (f : Nat → Nat → Int32) (v1 : Nat → Int32) (f1 : Nat → Nat → Int32) (w1 : Int64) (g1 : Nat → Int64) (H : Heap) (locs : List Loc) (ls : Array Slot), XI v → YI v1 → YC f1 → progOK (f1 4) (f1 5) (v1 9).toInt.toNat → FREL v f v1 f1 → va_P (dC, dI) vwCl (XW cy x0 x v f ++ YW cy y0 r v1 f1 w1 g1) H → va_D (fun q : Nat => s.heap.size ≤ q) (XW cy x0 x v f ++ YW cy y0 r v1 f1 w1 g1) → va_S (fun q : Nat => s.heap.size ≤ q) s.heap H locs → lv_has ls 4 [(3, .int i), (2, .ref y0), (1, .ref x0), (0, .ref b)] → W p l e room_1 s m #[Value.ref b] below meth c H locs 81 11738 Q (F0 m 1413 ls [])) : W p l e room_1 s m #[Value.ref b] below meth c H locs 81 11738 Q (F0 m 457 ls []) := by
  have hA : ∀ q : Nat, s.heap.size ≤ q → (fun q : Nat => s.heap.size ≤ q) q := fun _ h => h
  have hbA : ¬ (fun q : Nat => s.heap.size ≤ q) b := Nat.not_le.mpr hbl
  refine lv_aload_n hx hb dL_law_457 rfl (lv_at hl 2 rfl) ?_
  refine caVi (n := 0) (wr := YW cy y0 r v1 f1 w1 g1) (rest := []) hx hb hml hown hts hE hP hD hS hA (sX_X10_day_1 0 l dC dI cy x0 x  v f hIv) k_860 k_861 k_862 k_101 k_863 hd_yX10_day ⟨Nat.le_of_ble_eq_true rfl, Nat.le_of_ble_eq_true rfl⟩ [0, 1, 2, 3, 4, 5, 6, 7, 8, 9, 10, 11, 12, 13, 14, 15, 16, 17, 18, 19, 20, 21, 22, 23, 24, 25, 26, 27, 28, 29, 30, 31, 32, 33, 34, 35, 36, 37, 38, 39, 40, 41] [42, 43, 44, 45, 46, 47, 48, 49, 50, 51, 52, 53, 54, 55, 56, 57, 58, 59, 60, 61, 62, 63, 64, 65, 66, 67, 68, 69, 70, 71, 72, 73, 74, 75, 76, 77, 78, 79, 80] (lx1 cy x0 y0 x r v f v1 f1 w1 g1) (lx2 cy x0 y0 x r v f v1 f1 w1 g1) (lx3 cy x0 y0 x r v f v1 f1 w1 g1) lx4 lx5 lx6 0 10 rfl rfl rfl hl.1 rfl (Nat.le_of_ble_eq_true rfl) dL_law_458 ⟨Nat.le_of_ble_eq_true rfl, Nat.le_of_ble_eq_true rfl⟩ (fun r1 u H locs hw hP hD hS => ?_)
  obtain ⟨v2, f3⟩ := u
  obtain ⟨hGx, hVx, hFx, hIv2, hk0x, hk1x, hk7x, hk8x, hk9x, hk10x, hk31x, hk32x⟩ := hw
  have hP : va_P (dC, dI) vwCl (YW cy y0 r v1 f1 w1 g1 ++ XW cy x0 x v2 f3) H := hP
  have hD : va_D (fun q : Nat => s.heap.size ≤ q) (YW cy y0 r v1 f1 w1 g1 ++ XW cy x0 x v2 f3) := hD
  refine lv_pop hx hb dL_law_461 rfl ?_
  refine lv_aload_n hx hb dL_law_462 rfl (lv_at hl 1 rfl) ?_
  refine caVi (n := 0) (wr := XW cy x0 x v2 f3) (rest := []) hx hb hml hown hts hE hP hD hS hA (sY_X11_day_1 0 l dC dI cy y0 r  v1 f1 w1 g1 hIv1 hCf1 hRf1) k_1783 k_1784 k_1785 k_114 k_1786 hd_yX11_day ⟨Nat.le_of_ble_eq_true rfl, Nat.le_of_ble_eq_true rfl⟩ [0, 1, 2, 3, 4, 5, 6, 7, 8, 9, 10, 11, 12, 13, 14, 15, 16, 17, 18, 19, 20, 21, 22, 23, 24, 25, 26, 27, 28, 29, 30, 31, 32, 33, 34, 35, 36, 37, 38] [39, 40, 41, 42, 43, 44, 45, 46, 47, 48, 49, 50, 51, 52, 53, 54, 55, 56, 57, 58, 59, 60, 61, 62, 63, 64, 65, 66, 67, 68, 69, 70, 71, 72, 73, 74, 75, 76, 77, 78, 79, 80] (ly1 cy x0 y0 x r v2 f3 v1 f1 w1 g1) (ly2 cy x0 y0 x r v2 f3 v1 f1 w1 g1) (ly3 cy x0 y0 x r v2 f3 v1 f1 w1 g1) ly4 ly5 ly6 0 11 rfl rfl rfl hl.1 rfl (Nat.le_of_ble_eq_true rfl) dL_law_463 ⟨Nat.le_of_ble_eq_true rfl, Nat.le_of_ble_eq_true rfl⟩ (fun r4 u H locs hw hP hD hS => ?_)
  obtain ⟨v5, f6, w7, g8⟩ := u
  obtain ⟨hGy, hVy, hFy, hIv5, hCf6, hRf6, hk0y, hk1y, hk2y, hk3y, hk4y, hk5y, hk8y, hk9y, hk10y, hk13y, hk14y, hk15y, hk17y, hk18y, hk24y, hk25y, hk38y, hk39y⟩ := hw
  have hpr := FREL.day heq0 hGx hGy
  have hP : va_P (dC, dI) vwCl (XW cy x0 x v2 f3 ++ YW cy y0 r v5 f6 w7 g8) H := hP
  have hD : va_D (fun q : Nat => s.heap.size ≤ q) (XW cy x0 x v2 f3 ++ YW cy y0 r v5 f6 w7 g8) := hD
  refine lv_pop hx hb dL_law_466 rfl ?_
  refine lv_goto (tgt := 1413) hx hb dL_law_467 (by decide) ?_
  exact fin v2 f3 v5 f6 w7 g8 _ _ _ hIv2 hIv5 hCf6 hRf6 hpr.2 hP hD hS hl
set_option maxHeartbeats 4000000 in
set_option maxRecDepth 100000 in
theorem law_8 {p : Program} {l : Launch} {e : Env} {s : State} {m : MethodId} {below : List Frame} {meth : Method} {c : Code} {dC : Nat → ClassId} {dI : Nat → Nat → Nat} {cy : Nat → ClassId} {b L : Nat} {xs : Nat → Int32} {Q : State → Prop} {x0 y0 : Nat} {x r : Nat → Nat} (hx : p.tables.exec = Jvm.exec) (hb : c.code = code) (hml : c.maxLocals = 4) (hown : s.vm.findClass RL = some m.cls) (hts : ∀ w ∈ BIG, w.before #[Value.ref b] s = true) (hE : ENV (dC, dI) cy s) (hF : SRF (dC, dI) s) (hT : STR (dC, dI) (fun q : Nat => s.heap.size ≤ q) s s.heap) (hX : va_X b L xs s s.heap) (hbl : b < s.heap.size) (hL : L ≤ 3072) {v : Nat → Int32} {f : Nat → Nat → Int32} {v1 : Nat → Int32} {f1 : Nat → Nat → Int32} {w1 : Int64} {g1 : Nat → Int64} {i : Int32} (hi0 : 0 ≤ i.toInt) (hi6 : i.toInt + 6 ≤ L) {H : Heap} {locs : List Loc} {ls : Array Slot} (hIv : XI v) (hIv1 : YI v1) (hCf1 : YC f1) (hRf1 : progOK (f1 4) (f1 5) (v1 9).toInt.toNat) (heq0 : FREL v f v1 f1) (hP : va_P (dC, dI) vwCl (XW cy x0 x v f ++ YW cy y0 r v1 f1 w1 g1) H) (hD : va_D (fun q : Nat => s.heap.size ≤ q) (XW cy x0 x v f ++ YW cy y0 r v1 f1 w1 g1)) (hS : va_S (fun q : Nat => s.heap.size ≤ q) s.heap H locs) (hl : lv_has ls 4 [(3, .int i), (2, .ref y0), (1, .ref x0), (0, .ref b)]) (fin : ∀ (v : Nat → Int32) (f : Nat → Nat → Int32) (v1 : Nat → Int32) (f1 : Nat → Nat → Int32) (w1 : Int64) (g1 : Nat → Int64) (H : Heap) (locs : List Loc) (ls : Array Slot), XI v → YI v1 → YC f1 → progOK (f1 4) (f1 5) (v1 9).toInt.toNat → FREL v f v1 f1 → va_P (dC, dI) vwCl (XW cy x0 x v f ++ YW cy y0 r v1 f1 w1 g1) H → va_D (fun q : Nat => s.heap.size ≤ q) (XW cy x0 x v f ++ YW cy y0 r v1 f1 w1 g1) → va_S (fun q : Nat => s.heap.size ≤ q) s.heap H locs → lv_has ls 4 [(3, .int i), (2, .ref y0), (1, .ref x0), (0, .ref b)] → W p l e room_1 s m #[Value.ref b] below meth c H locs 81 11738 Q (F0 m 1413 ls [])) : W p l e room_1 s m #[Value.ref b] below meth c H locs 81 11738 Q (F0 m 470 ls []) := by
  have hA : ∀ q : Nat, s.heap.size ≤ q → (fun q : Nat => s.heap.size ≤ q) q := fun _ h => h
  have hbA : ¬ (fun q : Nat => s.heap.size ≤ q) b := Nat.not_le.mpr hbl
  refine lv_aload_n hx hb dL_law_470 rfl (lv_at hl 2 rfl) ?_
  refine lv_aload_n hx hb dL_law_471 rfl (lv_at hl 3 rfl) ?_
  refine lv_iload_n hx hb dL_law_472 rfl (lv_at hl 0 rfl) ?_
  refine lv_iconst (v := 1) hx hb dL_law_473 (by decide) ?_
  refine lv_iadd hx hb dL_law_474 ?_
  refine lv_topi (fun t1 et1 => ?_)
  have rg2 := fb_rng i
  have zt1 : t1.toInt = i.toInt + 1 := by rw [et1]; exact add_i rfl (by decide) (by omega) (by omega)
  refine va_sld hx hb hX hbl hbA hS (vp_in_iff.mpr ⟨by omega, by omega⟩) dL_law_475 ?_
  refine lv_topi (fun a3 ea3 => ?_)
  refine lv_aload_n hx hb dL_law_476 rfl (lv_at hl 3 rfl) ?_
  refine lv_iload_n hx hb dL_law_477 rfl (lv_at hl 0 rfl) ?_
  refine lv_iconst (v := 2) hx hb dL_law_478 (by decide) ?_
  refine lv_iadd hx hb dL_law_479 ?_
  refine lv_topi (fun t4 et4 => ?_)
  have zt4 : t4.toInt = i.toInt + 2 := by rw [et4]; exact add_i rfl (by decide) (by omega) (by omega)
  refine va_sld hx hb hX hbl hbA hS (vp_in_iff.mpr ⟨by omega, by omega⟩) dL_law_480 ?_
  refine lv_topi (fun a5 ea5 => ?_)
  refine caVi (n := 2) (wr := YW cy y0 r v1 f1 w1 g1) (rest := []) hx hb hml hown hts hE hP hD hS hA (sX_X10_don_1 0 l dC dI cy x0 x a3 a5 v f hIv) k_887 k_888 k_889 k_101 k_890 hd_yX10_don ⟨Nat.le_of_ble_eq_true rfl, Nat.le_of_ble_eq_true rfl⟩ [0, 1, 2, 3, 4, 5, 6, 7, 8, 9, 10, 11, 12, 13, 14, 15, 16, 17, 18, 19, 20, 21, 22, 23, 24, 25, 26, 27, 28, 29, 30, 31, 32, 33, 34, 35, 36, 37, 38, 39, 40, 41] [42, 43, 44, 45, 46, 47, 48, 49, 50, 51, 52, 53, 54, 55, 56, 57, 58, 59, 60, 61, 62, 63, 64, 65, 66, 67, 68, 69, 70, 71, 72, 73, 74, 75, 76, 77, 78, 79, 80] (lx1 cy x0 y0 x r v f v1 f1 w1 g1) (lx2 cy x0 y0 x r v f v1 f1 w1 g1) (lx3 cy x0 y0 x r v f v1 f1 w1 g1) lx4 lx5 lx6 0 10 rfl rfl rfl hl.1 rfl (Nat.le_of_ble_eq_true rfl) dL_law_481 ⟨Nat.le_of_ble_eq_true rfl, Nat.le_of_ble_eq_true rfl⟩ (fun r6 u H locs hw hP hD hS => ?_)
  obtain ⟨v7, f8⟩ := u
  obtain ⟨hGx, hVx, hFx, hIv7, hk0x, hk1x, hk7x, hk8x, hk9x, hk10x, hk31x, hk32x⟩ := hw
  have hP : va_P (dC, dI) vwCl (YW cy y0 r v1 f1 w1 g1 ++ XW cy x0 x v7 f8) H := hP
  have hD : va_D (fun q : Nat => s.heap.size ≤ q) (YW cy y0 r v1 f1 w1 g1 ++ XW cy x0 x v7 f8) := hD
  refine lv_pop hx hb dL_law_484 rfl ?_
  refine lv_aload_n hx hb dL_law_485 rfl (lv_at hl 1 rfl) ?_
  refine lv_aload_n hx hb dL_law_486 rfl (lv_at hl 3 rfl) ?_
  refine lv_iload_n hx hb dL_law_487 rfl (lv_at hl 0 rfl) ?_
  refine lv_iconst (v := 1) hx hb dL_law_488 (by decide) ?_
  refine lv_iadd hx hb dL_law_489 ?_
  refine tI (y := t1) et1.symm ?_
  refine va_sld hx hb hX hbl hbA hS (vp_in_iff.mpr ⟨by omega, by omega⟩) dL_law_490 ?_
  refine tI (y := a3) ea3.symm ?_
  refine lv_aload_n hx hb dL_law_491 rfl (lv_at hl 3 rfl) ?_
  refine lv_iload_n hx hb dL_law_492 rfl (lv_at hl 0 rfl) ?_
  refine lv_iconst (v := 2) hx hb dL_law_493 (by decide) ?_
  refine lv_iadd hx hb dL_law_494 ?_
  refine tI (y := t4) et4.symm ?_
  refine va_sld hx hb hX hbl hbA hS (vp_in_iff.mpr ⟨by omega, by omega⟩) dL_law_495 ?_
  refine tI (y := a5) ea5.symm ?_
  refine caVi (n := 2) (wr := XW cy x0 x v7 f8) (rest := []) hx hb hml hown hts hE hP hD hS hA (sY_X11_don_1 0 l dC dI cy y0 r a3 a5 v1 f1 w1 g1 hIv1 hCf1 hRf1) k_1817 k_1818 k_1819 k_114 k_1820 hd_yX11_don ⟨Nat.le_of_ble_eq_true rfl, Nat.le_of_ble_eq_true rfl⟩ [0, 1, 2, 3, 4, 5, 6, 7, 8, 9, 10, 11, 12, 13, 14, 15, 16, 17, 18, 19, 20, 21, 22, 23, 24, 25, 26, 27, 28, 29, 30, 31, 32, 33, 34, 35, 36, 37, 38] [39, 40, 41, 42, 43, 44, 45, 46, 47, 48, 49, 50, 51, 52, 53, 54, 55, 56, 57, 58, 59, 60, 61, 62, 63, 64, 65, 66, 67, 68, 69, 70, 71, 72, 73, 74, 75, 76, 77, 78, 79, 80] (ly1 cy x0 y0 x r v7 f8 v1 f1 w1 g1) (ly2 cy x0 y0 x r v7 f8 v1 f1 w1 g1) (ly3 cy x0 y0 x r v7 f8 v1 f1 w1 g1) ly4 ly5 ly6 0 11 rfl rfl rfl hl.1 rfl (Nat.le_of_ble_eq_true rfl) dL_law_496 ⟨Nat.le_of_ble_eq_true rfl, Nat.le_of_ble_eq_true rfl⟩ (fun r9 u H locs hw hP hD hS => ?_)
  obtain ⟨v10, f11, w12, g13⟩ := u
  obtain ⟨hGy, hVy, hFy, hIv10, hCf11, hRf11, hk0y, hk1y, hk2y, hk3y, hk4y, hk5y, hk8y, hk9y, hk10y, hk13y, hk14y, hk15y, hk17y, hk18y, hk24y, hk25y, hk38y, hk39y⟩ := hw
  have hpr := FREL.don heq0 hGx hGy
  have hP : va_P (dC, dI) vwCl (XW cy x0 x v7 f8 ++ YW cy y0 r v10 f11 w12 g13) H := hP
  have hD : va_D (fun q : Nat => s.heap.size ≤ q) (XW cy x0 x v7 f8 ++ YW cy y0 r v10 f11 w12 g13) := hD
  refine lv_pop hx hb dL_law_499 rfl ?_
  refine lv_goto (tgt := 1413) hx hb dL_law_500 (by decide) ?_
  exact fin v7 f8 v10 f11 w12 g13 _ _ _ hIv7 hIv10 hCf11 hRf11 hpr.2 hP hD hS hl
set_option maxHeartbeats 4000000 in
set_option maxRecDepth 100000 in
theorem law_9 {p : Program} {l : Launch} {e : Env} {s : State} {m : MethodId} {below : List Frame} {meth : Method} {c : Code} {dC : Nat → ClassId} {dI : Nat → Nat → Nat} {cy : Nat → ClassId} {b L : Nat} {xs : Nat → Int32} {Q : State → Prop} {x0 y0 : Nat} {x r : Nat → Nat} (hx : p.tables.exec = Jvm.exec) (hb : c.code = code) (hml : c.maxLocals = 4) (hown : s.vm.findClass RL = some m.cls) (hts : ∀ w ∈ BIG, w.before #[Value.ref b] s = true) (hE : ENV (dC, dI) cy s) (hF : SRF (dC, dI) s) (hT : STR (dC, dI) (fun q : Nat => s.heap.size ≤ q) s s.heap) (hX : va_X b L xs s s.heap) (hbl : b < s.heap.size) (hL : L ≤ 3072) {v : Nat → Int32} {f : Nat → Nat → Int32} {v1 : Nat → Int32} {f1 : Nat → Nat → Int32} {w1 : Int64} {g1 : Nat → Int64} {i : Int32} (hi0 : 0 ≤ i.toInt) (hi6 : i.toInt + 6 ≤ L) {H : Heap} {locs : List Loc} {ls : Array Slot} (hIv : XI v) (hIv1 : YI v1) (hCf1 : YC f1) (hRf1 : progOK (f1 4) (f1 5) (v1 9).toInt.toNat) (heq0 : FREL v f v1 f1) (hP : va_P (dC, dI) vwCl (XW cy x0 x v f ++ YW cy y0 r v1 f1 w1 g1) H) (hD : va_D (fun q : Nat => s.heap.size ≤ q) (XW cy x0 x v f ++ YW cy y0 r v1 f1 w1 g1)) (hS : va_S (fun q : Nat => s.heap.size ≤ q) s.heap H locs) (hl : lv_has ls 4 [(3, .int i), (2, .ref y0), (1, .ref x0), (0, .ref b)]) (fin : ∀ (v : Nat → Int32) (f : Nat → Nat → Int32) (v1 : Nat → Int32) (f1 : Nat → Nat → Int32) (w1 : Int64) (g1 : Nat → Int64) (H : Heap) (locs : List Loc) (ls : Array Slot), XI v → YI v1 → YC f1 → progOK (f1 4) (f1 5) (v1 9).toInt.toNat → FREL v f v1 f1 → va_P (dC, dI) vwCl (XW cy x0 x v f ++ YW cy y0 r v1 f1 w1 g1) H → va_D (fun q : Nat => s.heap.size ≤ q) (XW cy x0 x v f ++ YW cy y0 r v1 f1 w1 g1) → va_S (fun q : Nat => s.heap.size ≤ q) s.heap H locs → lv_has ls 4 [(3, .int i), (2, .ref y0), (1, .ref x0), (0, .ref b)] → W p l e room_1 s m #[Value.ref b] below meth c H locs 81 11738 Q (F0 m 1413 ls [])) : W p l e room_1 s m #[Value.ref b] below meth c H locs 81 11738 Q (F0 m 503 ls []) := by
  have hA : ∀ q : Nat, s.heap.size ≤ q → (fun q : Nat => s.heap.size ≤ q) q := fun _ h => h
  have hbA : ¬ (fun q : Nat => s.heap.size ≤ q) b := Nat.not_le.mpr hbl
  refine lv_aload_n hx hb dL_law_503 rfl (lv_at hl 2 rfl) ?_
  refine lv_aload_n hx hb dL_law_504 rfl (lv_at hl 3 rfl) ?_
  refine lv_iload_n hx hb dL_law_505 rfl (lv_at hl 0 rfl) ?_
  refine lv_iconst (v := 1) hx hb dL_law_506 (by decide) ?_
  refine lv_iadd hx hb dL_law_507 ?_
  refine lv_topi (fun t1 et1 => ?_)
  have rg2 := fb_rng i
  have zt1 : t1.toInt = i.toInt + 1 := by rw [et1]; exact add_i rfl (by decide) (by omega) (by omega)
  refine va_sld hx hb hX hbl hbA hS (vp_in_iff.mpr ⟨by omega, by omega⟩) dL_law_508 ?_
  refine lv_topi (fun a3 ea3 => ?_)
  refine caVi (n := 1) (wr := YW cy y0 r v1 f1 w1 g1) (rest := []) hx hb hml hown hts hE hP hD hS hA (sX_X10_doff_1 0 l dC dI cy x0 x a3 v f hIv) k_892 k_893 k_894 k_101 k_895 hd_yX10_doff ⟨Nat.le_of_ble_eq_true rfl, Nat.le_of_ble_eq_true rfl⟩ [0, 1, 2, 3, 4, 5, 6, 7, 8, 9, 10, 11, 12, 13, 14, 15, 16, 17, 18, 19, 20, 21, 22, 23, 24, 25, 26, 27, 28, 29, 30, 31, 32, 33, 34, 35, 36, 37, 38, 39, 40, 41] [42, 43, 44, 45, 46, 47, 48, 49, 50, 51, 52, 53, 54, 55, 56, 57, 58, 59, 60, 61, 62, 63, 64, 65, 66, 67, 68, 69, 70, 71, 72, 73, 74, 75, 76, 77, 78, 79, 80] (lx1 cy x0 y0 x r v f v1 f1 w1 g1) (lx2 cy x0 y0 x r v f v1 f1 w1 g1) (lx3 cy x0 y0 x r v f v1 f1 w1 g1) lx4 lx5 lx6 0 10 rfl rfl rfl hl.1 rfl (Nat.le_of_ble_eq_true rfl) dL_law_509 ⟨Nat.le_of_ble_eq_true rfl, Nat.le_of_ble_eq_true rfl⟩ (fun r4 u H locs hw hP hD hS => ?_)
  obtain ⟨v5, f6⟩ := u
  obtain ⟨hGx, hVx, hFx, hIv5, hk0x, hk1x, hk7x, hk8x, hk9x, hk10x, hk31x, hk32x⟩ := hw
  have hP : va_P (dC, dI) vwCl (YW cy y0 r v1 f1 w1 g1 ++ XW cy x0 x v5 f6) H := hP
  have hD : va_D (fun q : Nat => s.heap.size ≤ q) (YW cy y0 r v1 f1 w1 g1 ++ XW cy x0 x v5 f6) := hD
  refine lv_pop hx hb dL_law_512 rfl ?_
  refine lv_aload_n hx hb dL_law_513 rfl (lv_at hl 1 rfl) ?_
  refine lv_aload_n hx hb dL_law_514 rfl (lv_at hl 3 rfl) ?_
  refine lv_iload_n hx hb dL_law_515 rfl (lv_at hl 0 rfl) ?_
  refine lv_iconst (v := 1) hx hb dL_law_516 (by decide) ?_
  refine lv_iadd hx hb dL_law_517 ?_
  refine tI (y := t1) et1.symm ?_
  refine va_sld hx hb hX hbl hbA hS (vp_in_iff.mpr ⟨by omega, by omega⟩) dL_law_518 ?_
  refine tI (y := a3) ea3.symm ?_
  refine caVi (n := 1) (wr := XW cy x0 x v5 f6) (rest := []) hx hb hml hown hts hE hP hD hS hA (sY_X11_doff_1 0 l dC dI cy y0 r a3 v1 f1 w1 g1 hIv1 hCf1 hRf1) k_1821 k_1822 k_1823 k_114 k_1824 hd_yX11_doff ⟨Nat.le_of_ble_eq_true rfl, Nat.le_of_ble_eq_true rfl⟩ [0, 1, 2, 3, 4, 5, 6, 7, 8, 9, 10, 11, 12, 13, 14, 15, 16, 17, 18, 19, 20, 21, 22, 23, 24, 25, 26, 27, 28, 29, 30, 31, 32, 33, 34, 35, 36, 37, 38] [39, 40, 41, 42, 43, 44, 45, 46, 47, 48, 49, 50, 51, 52, 53, 54, 55, 56, 57, 58, 59, 60, 61, 62, 63, 64, 65, 66, 67, 68, 69, 70, 71, 72, 73, 74, 75, 76, 77, 78, 79, 80] (ly1 cy x0 y0 x r v5 f6 v1 f1 w1 g1) (ly2 cy x0 y0 x r v5 f6 v1 f1 w1 g1) (ly3 cy x0 y0 x r v5 f6 v1 f1 w1 g1) ly4 ly5 ly6 0 11 rfl rfl rfl hl.1 rfl (Nat.le_of_ble_eq_true rfl) dL_law_519 ⟨Nat.le_of_ble_eq_true rfl, Nat.le_of_ble_eq_true rfl⟩ (fun r7 u H locs hw hP hD hS => ?_)
  obtain ⟨v8, f9, w10, g11⟩ := u
  obtain ⟨hGy, hVy, hFy, hIv8, hCf9, hRf9, hk0y, hk1y, hk2y, hk3y, hk4y, hk5y, hk8y, hk9y, hk10y, hk13y, hk14y, hk15y, hk17y, hk18y, hk24y, hk25y, hk38y, hk39y⟩ := hw
  have hpr := FREL.doff heq0 hGx hGy
  have hP : va_P (dC, dI) vwCl (XW cy x0 x v5 f6 ++ YW cy y0 r v8 f9 w10 g11) H := hP
  have hD : va_D (fun q : Nat => s.heap.size ≤ q) (XW cy x0 x v5 f6 ++ YW cy y0 r v8 f9 w10 g11) := hD
  refine lv_pop hx hb dL_law_522 rfl ?_
  refine lv_goto (tgt := 1413) hx hb dL_law_523 (by decide) ?_
  exact fin v5 f6 v8 f9 w10 g11 _ _ _ hIv5 hIv8 hCf9 hRf9 hpr.2 hP hD hS hl
set_option maxHeartbeats 4000000 in
set_option maxRecDepth 100000 in
theorem law_10 {p : Program} {l : Launch} {e : Env} {s : State} {m : MethodId} {below : List Frame} {meth : Method} {c : Code} {dC : Nat → ClassId} {dI : Nat → Nat → Nat} {cy : Nat → ClassId} {b L : Nat} {xs : Nat → Int32} {Q : State → Prop} {x0 y0 : Nat} {x r : Nat → Nat} (hx : p.tables.exec = Jvm.exec) (hb : c.code = code) (hml : c.maxLocals = 4) (hown : s.vm.findClass RL = some m.cls) (hts : ∀ w ∈ BIG, w.before #[Value.ref b] s = true) (hE : ENV (dC, dI) cy s) (hF : SRF (dC, dI) s) (hT : STR (dC, dI) (fun q : Nat => s.heap.size ≤ q) s s.heap) (hX : va_X b L xs s s.heap) (hbl : b < s.heap.size) (hL : L ≤ 3072) {v : Nat → Int32} {f : Nat → Nat → Int32} {v1 : Nat → Int32} {f1 : Nat → Nat → Int32} {w1 : Int64} {g1 : Nat → Int64} {i : Int32} (hi0 : 0 ≤ i.toInt) (hi6 : i.toInt + 6 ≤ L) {H : Heap} {locs : List Loc} {ls : Array Slot} (hIv : XI v) (hIv1 : YI v1) (hCf1 : YC f1) (hRf1 : progOK (f1 4) (f1 5) (v1 9).toInt.toNat) (heq0 : FREL v f v1 f1) (hP : va_P (dC, dI) vwCl (XW cy x0 x v f ++ YW cy y0 r v1 f1 w1 g1) H) (hD : va_D (fun q : Nat => s.heap.size ≤ q) (XW cy x0 x v f ++ YW cy y0 r v1 f1 w1 g1)) (hS : va_S (fun q : Nat => s.heap.size ≤ q) s.heap H locs) (hl : lv_has ls 4 [(3, .int i), (2, .ref y0), (1, .ref x0), (0, .ref b)]) (fin : ∀ (v : Nat → Int32) (f : Nat → Nat → Int32) (v1 : Nat → Int32) (f1 : Nat → Nat → Int32) (w1 : Int64) (g1 : Nat → Int64) (H : Heap) (locs : List Loc) (ls : Array Slot), XI v → YI v1 → YC f1 → progOK (f1 4) (f1 5) (v1 9).toInt.toNat → FREL v f v1 f1 → va_P (dC, dI) vwCl (XW cy x0 x v f ++ YW cy y0 r v1 f1 w1 g1) H → va_D (fun q : Nat => s.heap.size ≤ q) (XW cy x0 x v f ++ YW cy y0 r v1 f1 w1 g1) → va_S (fun q : Nat => s.heap.size ≤ q) s.heap H locs → lv_has ls 4 [(3, .int i), (2, .ref y0), (1, .ref x0), (0, .ref b)] → W p l e room_1 s m #[Value.ref b] below meth c H locs 81 11738 Q (F0 m 1413 ls [])) : W p l e room_1 s m #[Value.ref b] below meth c H locs 81 11738 Q (F0 m 526 ls []) := by
  have hA : ∀ q : Nat, s.heap.size ≤ q → (fun q : Nat => s.heap.size ≤ q) q := fun _ h => h
  have hbA : ¬ (fun q : Nat => s.heap.size ≤ q) b := Nat.not_le.mpr hbl
  refine lv_aload_n hx hb dL_law_526 rfl (lv_at hl 2 rfl) ?_
  refine lv_aload_n hx hb dL_law_527 rfl (lv_at hl 3 rfl) ?_
  refine lv_iload_n hx hb dL_law_528 rfl (lv_at hl 0 rfl) ?_
  refine lv_iconst (v := 1) hx hb dL_law_529 (by decide) ?_
  refine lv_iadd hx hb dL_law_530 ?_
  refine lv_topi (fun t1 et1 => ?_)
  have rg2 := fb_rng i
  have zt1 : t1.toInt = i.toInt + 1 := by rw [et1]; exact add_i rfl (by decide) (by omega) (by omega)
  refine va_sld hx hb hX hbl hbA hS (vp_in_iff.mpr ⟨by omega, by omega⟩) dL_law_531 ?_
  refine lv_topi (fun a3 ea3 => ?_)
  refine lv_aload_n hx hb dL_law_532 rfl (lv_at hl 3 rfl) ?_
  refine lv_iload_n hx hb dL_law_533 rfl (lv_at hl 0 rfl) ?_
  refine lv_iconst (v := 2) hx hb dL_law_534 (by decide) ?_
  refine lv_iadd hx hb dL_law_535 ?_
  refine lv_topi (fun t4 et4 => ?_)
  have zt4 : t4.toInt = i.toInt + 2 := by rw [et4]; exact add_i rfl (by decide) (by omega) (by omega)
  refine va_sld hx hb hX hbl hbA hS (vp_in_iff.mpr ⟨by omega, by omega⟩) dL_law_536 ?_
  refine lv_topi (fun a5 ea5 => ?_)
  refine caVi (n := 2) (wr := YW cy y0 r v1 f1 w1 g1) (rest := []) hx hb hml hown hts hE hP hD hS hA (sX_X10_letout_1 0 l dC dI cy x0 x a3 a5 v f hIv) k_896 k_897 k_898 k_101 k_899 hd_yX10_letout ⟨Nat.le_of_ble_eq_true rfl, Nat.le_of_ble_eq_true rfl⟩ [0, 1, 2, 3, 4, 5, 6, 7, 8, 9, 10, 11, 12, 13, 14, 15, 16, 17, 18, 19, 20, 21, 22, 23, 24, 25, 26, 27, 28, 29, 30, 31, 32, 33, 34, 35, 36, 37, 38, 39, 40, 41] [42, 43, 44, 45, 46, 47, 48, 49, 50, 51, 52, 53, 54, 55, 56, 57, 58, 59, 60, 61, 62, 63, 64, 65, 66, 67, 68, 69, 70, 71, 72, 73, 74, 75, 76, 77, 78, 79, 80] (lx1 cy x0 y0 x r v f v1 f1 w1 g1) (lx2 cy x0 y0 x r v f v1 f1 w1 g1) (lx3 cy x0 y0 x r v f v1 f1 w1 g1) lx4 lx5 lx6 0 10 rfl rfl rfl hl.1 rfl (Nat.le_of_ble_eq_true rfl) dL_law_537 ⟨Nat.le_of_ble_eq_true rfl, Nat.le_of_ble_eq_true rfl⟩ (fun r6 u H locs hw hP hD hS => ?_)
  obtain ⟨v7, f8⟩ := u
  obtain ⟨hGx, hVx, hFx, hIv7, hk0x, hk1x, hk7x, hk8x, hk9x, hk10x, hk31x, hk32x⟩ := hw
  have hP : va_P (dC, dI) vwCl (YW cy y0 r v1 f1 w1 g1 ++ XW cy x0 x v7 f8) H := hP
  have hD : va_D (fun q : Nat => s.heap.size ≤ q) (YW cy y0 r v1 f1 w1 g1 ++ XW cy x0 x v7 f8) := hD
  refine lv_pop hx hb dL_law_540 rfl ?_
  refine lv_aload_n hx hb dL_law_541 rfl (lv_at hl 1 rfl) ?_
  refine lv_aload_n hx hb dL_law_542 rfl (lv_at hl 3 rfl) ?_
  refine lv_iload_n hx hb dL_law_543 rfl (lv_at hl 0 rfl) ?_
  refine lv_iconst (v := 1) hx hb dL_law_544 (by decide) ?_
  refine lv_iadd hx hb dL_law_545 ?_
  refine tI (y := t1) et1.symm ?_
  refine va_sld hx hb hX hbl hbA hS (vp_in_iff.mpr ⟨by omega, by omega⟩) dL_law_546 ?_
  refine tI (y := a3) ea3.symm ?_
  refine lv_aload_n hx hb dL_law_547 rfl (lv_at hl 3 rfl) ?_
  refine lv_iload_n hx hb dL_law_548 rfl (lv_at hl 0 rfl) ?_
  refine lv_iconst (v := 2) hx hb dL_law_549 (by decide) ?_
  refine lv_iadd hx hb dL_law_550 ?_
  refine tI (y := t4) et4.symm ?_
  refine va_sld hx hb hX hbl hbA hS (vp_in_iff.mpr ⟨by omega, by omega⟩) dL_law_551 ?_
  refine tI (y := a5) ea5.symm ?_
  refine caVi (n := 2) (wr := XW cy x0 x v7 f8) (rest := []) hx hb hml hown hts hE hP hD hS hA (sY_X11_letout_1 0 l dC dI cy y0 r a3 a5 v1 f1 w1 g1 hIv1 hCf1 hRf1) k_1825 k_1826 k_1827 k_114 k_1828 hd_yX11_letout ⟨Nat.le_of_ble_eq_true rfl, Nat.le_of_ble_eq_true rfl⟩ [0, 1, 2, 3, 4, 5, 6, 7, 8, 9, 10, 11, 12, 13, 14, 15, 16, 17, 18, 19, 20, 21, 22, 23, 24, 25, 26, 27, 28, 29, 30, 31, 32, 33, 34, 35, 36, 37, 38] [39, 40, 41, 42, 43, 44, 45, 46, 47, 48, 49, 50, 51, 52, 53, 54, 55, 56, 57, 58, 59, 60, 61, 62, 63, 64, 65, 66, 67, 68, 69, 70, 71, 72, 73, 74, 75, 76, 77, 78, 79, 80] (ly1 cy x0 y0 x r v7 f8 v1 f1 w1 g1) (ly2 cy x0 y0 x r v7 f8 v1 f1 w1 g1) (ly3 cy x0 y0 x r v7 f8 v1 f1 w1 g1) ly4 ly5 ly6 0 11 rfl rfl rfl hl.1 rfl (Nat.le_of_ble_eq_true rfl) dL_law_552 ⟨Nat.le_of_ble_eq_true rfl, Nat.le_of_ble_eq_true rfl⟩ (fun r9 u H locs hw hP hD hS => ?_)
  obtain ⟨v10, f11, w12, g13⟩ := u
  obtain ⟨hGy, hVy, hFy, hIv10, hCf11, hRf11, hk0y, hk1y, hk2y, hk3y, hk4y, hk5y, hk8y, hk9y, hk10y, hk13y, hk14y, hk15y, hk17y, hk18y, hk24y, hk25y, hk38y, hk39y⟩ := hw
  have hpr := FREL.letout heq0 hGx hGy
  have hP : va_P (dC, dI) vwCl (XW cy x0 x v7 f8 ++ YW cy y0 r v10 f11 w12 g13) H := hP
  have hD : va_D (fun q : Nat => s.heap.size ≤ q) (XW cy x0 x v7 f8 ++ YW cy y0 r v10 f11 w12 g13) := hD
  refine lv_pop hx hb dL_law_555 rfl ?_
  refine lv_goto (tgt := 1413) hx hb dL_law_556 (by decide) ?_
  exact fin v7 f8 v10 f11 w12 g13 _ _ _ hIv7 hIv10 hCf11 hRf11 hpr.2 hP hD hS hl
set_option maxHeartbeats 4000000 in
set_option maxRecDepth 100000 in
theorem law_11 {p : Program} {l : Launch} {e : Env} {s : State} {m : MethodId} {below : List Frame} {meth : Method} {c : Code} {dC : Nat → ClassId} {dI : Nat → Nat → Nat} {cy : Nat → ClassId} {b L : Nat} {xs : Nat → Int32} {Q : State → Prop} {x0 y0 : Nat} {x r : Nat → Nat} (hx : p.tables.exec = Jvm.exec) (hb : c.code = code) (hml : c.maxLocals = 4) (hown : s.vm.findClass RL = some m.cls) (hts : ∀ w ∈ BIG, w.before #[Value.ref b] s = true) (hE : ENV (dC, dI) cy s) (hF : SRF (dC, dI) s) (hT : STR (dC, dI) (fun q : Nat => s.heap.size ≤ q) s s.heap) (hX : va_X b L xs s s.heap) (hbl : b < s.heap.size) (hL : L ≤ 3072) {v : Nat → Int32} {f : Nat → Nat → Int32} {v1 : Nat → Int32} {f1 : Nat → Nat → Int32} {w1 : Int64} {g1 : Nat → Int64} {i : Int32} (hi0 : 0 ≤ i.toInt) (hi6 : i.toInt + 6 ≤ L) {H : Heap} {locs : List Loc} {ls : Array Slot} (hIv : XI v) (hIv1 : YI v1) (hCf1 : YC f1) (hRf1 : progOK (f1 4) (f1 5) (v1 9).toInt.toNat) (heq0 : FREL v f v1 f1) (hP : va_P (dC, dI) vwCl (XW cy x0 x v f ++ YW cy y0 r v1 f1 w1 g1) H) (hD : va_D (fun q : Nat => s.heap.size ≤ q) (XW cy x0 x v f ++ YW cy y0 r v1 f1 w1 g1)) (hS : va_S (fun q : Nat => s.heap.size ≤ q) s.heap H locs) (hl : lv_has ls 4 [(3, .int i), (2, .ref y0), (1, .ref x0), (0, .ref b)]) (fin : ∀ (v : Nat → Int32) (f : Nat → Nat → Int32) (v1 : Nat → Int32) (f1 : Nat → Nat → Int32) (w1 : Int64) (g1 : Nat → Int64) (H : Heap) (locs : List Loc) (ls : Array Slot), XI v → YI v1 → YC f1 → progOK (f1 4) (f1 5) (v1 9).toInt.toNat → FREL v f v1 f1 → va_P (dC, dI) vwCl (XW cy x0 x v f ++ YW cy y0 r v1 f1 w1 g1) H → va_D (fun q : Nat => s.heap.size ≤ q) (XW cy x0 x v f ++ YW cy y0 r v1 f1 w1 g1) → va_S (fun q : Nat => s.heap.size ≤ q) s.heap H locs → lv_has ls 4 [(3, .int i), (2, .ref y0), (1, .ref x0), (0, .ref b)] → W p l e room_1 s m #[Value.ref b] below meth c H locs 81 11738 Q (F0 m 1413 ls [])) : W p l e room_1 s m #[Value.ref b] below meth c H locs 81 11738 Q (F0 m 559 ls []) := by
  have hA : ∀ q : Nat, s.heap.size ≤ q → (fun q : Nat => s.heap.size ≤ q) q := fun _ h => h
  have hbA : ¬ (fun q : Nat => s.heap.size ≤ q) b := Nat.not_le.mpr hbl
  refine lv_aload_n hx hb dL_law_559 rfl (lv_at hl 2 rfl) ?_
  refine lv_aload_n hx hb dL_law_560 rfl (lv_at hl 3 rfl) ?_
  refine lv_iload_n hx hb dL_law_561 rfl (lv_at hl 0 rfl) ?_
  refine lv_iconst (v := 1) hx hb dL_law_562 (by decide) ?_
  refine lv_iadd hx hb dL_law_563 ?_
  refine lv_topi (fun t1 et1 => ?_)
  have rg2 := fb_rng i
  have zt1 : t1.toInt = i.toInt + 1 := by rw [et1]; exact add_i rfl (by decide) (by omega) (by omega)
  refine va_sld hx hb hX hbl hbA hS (vp_in_iff.mpr ⟨by omega, by omega⟩) dL_law_564 ?_
  refine lv_topi (fun a3 ea3 => ?_)
  refine lv_aload_n hx hb dL_law_565 rfl (lv_at hl 3 rfl) ?_
  refine lv_iload_n hx hb dL_law_566 rfl (lv_at hl 0 rfl) ?_
  refine lv_iconst (v := 2) hx hb dL_law_567 (by decide) ?_
  refine lv_iadd hx hb dL_law_568 ?_
  refine lv_topi (fun t4 et4 => ?_)
  have zt4 : t4.toInt = i.toInt + 2 := by rw [et4]; exact add_i rfl (by decide) (by omega) (by omega)
  refine va_sld hx hb hX hbl hbA hS (vp_in_iff.mpr ⟨by omega, by omega⟩) dL_law_569 ?_
  refine lv_topi (fun a5 ea5 => ?_)
  refine caVi (n := 2) (wr := YW cy y0 r v1 f1 w1 g1) (rest := []) hx hb hml hown hts hE hP hD hS hA (sX_X10_takein_1 0 l dC dI cy x0 x a3 a5 v f hIv) k_905 k_906 k_907 k_101 k_908 hd_yX10_takein ⟨Nat.le_of_ble_eq_true rfl, Nat.le_of_ble_eq_true rfl⟩ [0, 1, 2, 3, 4, 5, 6, 7, 8, 9, 10, 11, 12, 13, 14, 15, 16, 17, 18, 19, 20, 21, 22, 23, 24, 25, 26, 27, 28, 29, 30, 31, 32, 33, 34, 35, 36, 37, 38, 39, 40, 41] [42, 43, 44, 45, 46, 47, 48, 49, 50, 51, 52, 53, 54, 55, 56, 57, 58, 59, 60, 61, 62, 63, 64, 65, 66, 67, 68, 69, 70, 71, 72, 73, 74, 75, 76, 77, 78, 79, 80] (lx1 cy x0 y0 x r v f v1 f1 w1 g1) (lx2 cy x0 y0 x r v f v1 f1 w1 g1) (lx3 cy x0 y0 x r v f v1 f1 w1 g1) lx4 lx5 lx6 0 10 rfl rfl rfl hl.1 rfl (Nat.le_of_ble_eq_true rfl) dL_law_570 ⟨Nat.le_of_ble_eq_true rfl, Nat.le_of_ble_eq_true rfl⟩ (fun r6 u H locs hw hP hD hS => ?_)
  obtain ⟨v7, f8⟩ := u
  obtain ⟨hGx, hVx, hFx, hIv7, hk0x, hk1x, hk7x, hk8x, hk9x, hk10x, hk31x, hk32x⟩ := hw
  have hP : va_P (dC, dI) vwCl (YW cy y0 r v1 f1 w1 g1 ++ XW cy x0 x v7 f8) H := hP
  have hD : va_D (fun q : Nat => s.heap.size ≤ q) (YW cy y0 r v1 f1 w1 g1 ++ XW cy x0 x v7 f8) := hD
  refine lv_pop hx hb dL_law_573 rfl ?_
  refine lv_aload_n hx hb dL_law_574 rfl (lv_at hl 1 rfl) ?_
  refine lv_aload_n hx hb dL_law_575 rfl (lv_at hl 3 rfl) ?_
  refine lv_iload_n hx hb dL_law_576 rfl (lv_at hl 0 rfl) ?_
  refine lv_iconst (v := 1) hx hb dL_law_577 (by decide) ?_
  refine lv_iadd hx hb dL_law_578 ?_
  refine tI (y := t1) et1.symm ?_
  refine va_sld hx hb hX hbl hbA hS (vp_in_iff.mpr ⟨by omega, by omega⟩) dL_law_579 ?_
  refine tI (y := a3) ea3.symm ?_
  refine lv_aload_n hx hb dL_law_580 rfl (lv_at hl 3 rfl) ?_
  refine lv_iload_n hx hb dL_law_581 rfl (lv_at hl 0 rfl) ?_
  refine lv_iconst (v := 2) hx hb dL_law_582 (by decide) ?_
  refine lv_iadd hx hb dL_law_583 ?_
  refine tI (y := t4) et4.symm ?_
  refine va_sld hx hb hX hbl hbA hS (vp_in_iff.mpr ⟨by omega, by omega⟩) dL_law_584 ?_
  refine tI (y := a5) ea5.symm ?_
  refine caVi (n := 2) (wr := XW cy x0 x v7 f8) (rest := []) hx hb hml hown hts hE hP hD hS hA (sY_X11_takein_1 0 l dC dI cy y0 r a3 a5 v1 f1 w1 g1 hIv1 hCf1 hRf1) k_1829 k_1830 k_1831 k_114 k_1832 hd_yX11_takein ⟨Nat.le_of_ble_eq_true rfl, Nat.le_of_ble_eq_true rfl⟩ [0, 1, 2, 3, 4, 5, 6, 7, 8, 9, 10, 11, 12, 13, 14, 15, 16, 17, 18, 19, 20, 21, 22, 23, 24, 25, 26, 27, 28, 29, 30, 31, 32, 33, 34, 35, 36, 37, 38] [39, 40, 41, 42, 43, 44, 45, 46, 47, 48, 49, 50, 51, 52, 53, 54, 55, 56, 57, 58, 59, 60, 61, 62, 63, 64, 65, 66, 67, 68, 69, 70, 71, 72, 73, 74, 75, 76, 77, 78, 79, 80] (ly1 cy x0 y0 x r v7 f8 v1 f1 w1 g1) (ly2 cy x0 y0 x r v7 f8 v1 f1 w1 g1) (ly3 cy x0 y0 x r v7 f8 v1 f1 w1 g1) ly4 ly5 ly6 0 11 rfl rfl rfl hl.1 rfl (Nat.le_of_ble_eq_true rfl) dL_law_585 ⟨Nat.le_of_ble_eq_true rfl, Nat.le_of_ble_eq_true rfl⟩ (fun r9 u H locs hw hP hD hS => ?_)
  obtain ⟨v10, f11, w12, g13⟩ := u
  obtain ⟨hGy, hVy, hFy, hIv10, hCf11, hRf11, hk0y, hk1y, hk2y, hk3y, hk4y, hk5y, hk8y, hk9y, hk10y, hk13y, hk14y, hk15y, hk17y, hk18y, hk24y, hk25y, hk38y, hk39y⟩ := hw
  have hpr := FREL.takein heq0 hGx hGy
  have hP : va_P (dC, dI) vwCl (XW cy x0 x v7 f8 ++ YW cy y0 r v10 f11 w12 g13) H := hP
  have hD : va_D (fun q : Nat => s.heap.size ≤ q) (XW cy x0 x v7 f8 ++ YW cy y0 r v10 f11 w12 g13) := hD
  refine lv_pop hx hb dL_law_588 rfl ?_
  refine lv_goto (tgt := 1413) hx hb dL_law_589 (by decide) ?_
  exact fin v7 f8 v10 f11 w12 g13 _ _ _ hIv7 hIv10 hCf11 hRf11 hpr.2 hP hD hS hl
set_option maxHeartbeats 4000000 in
set_option maxRecDepth 100000 in
theorem law_12 {p : Program} {l : Launch} {e : Env} {s : State} {m : MethodId} {below : List Frame} {meth : Method} {c : Code} {dC : Nat → ClassId} {dI : Nat → Nat → Nat} {cy : Nat → ClassId} {b L : Nat} {xs : Nat → Int32} {Q : State → Prop} {x0 y0 : Nat} {x r : Nat → Nat} (hx : p.tables.exec = Jvm.exec) (hb : c.code = code) (hml : c.maxLocals = 4) (hown : s.vm.findClass RL = some m.cls) (hts : ∀ w ∈ BIG, w.before #[Value.ref b] s = true) (hE : ENV (dC, dI) cy s) (hF : SRF (dC, dI) s) (hT : STR (dC, dI) (fun q : Nat => s.heap.size ≤ q) s s.heap) (hX : va_X b L xs s s.heap) (hbl : b < s.heap.size) (hL : L ≤ 3072) {v : Nat → Int32} {f : Nat → Nat → Int32} {v1 : Nat → Int32} {f1 : Nat → Nat → Int32} {w1 : Int64} {g1 : Nat → Int64} {i : Int32} (hi0 : 0 ≤ i.toInt) (hi6 : i.toInt + 6 ≤ L) {H : Heap} {locs : List Loc} {ls : Array Slot} (hIv : XI v) (hIv1 : YI v1) (hCf1 : YC f1) (hRf1 : progOK (f1 4) (f1 5) (v1 9).toInt.toNat) (heq0 : FREL v f v1 f1) (hP : va_P (dC, dI) vwCl (XW cy x0 x v f ++ YW cy y0 r v1 f1 w1 g1) H) (hD : va_D (fun q : Nat => s.heap.size ≤ q) (XW cy x0 x v f ++ YW cy y0 r v1 f1 w1 g1)) (hS : va_S (fun q : Nat => s.heap.size ≤ q) s.heap H locs) (hl : lv_has ls 4 [(3, .int i), (2, .ref y0), (1, .ref x0), (0, .ref b)]) (fin : ∀ (v : Nat → Int32) (f : Nat → Nat → Int32) (v1 : Nat → Int32) (f1 : Nat → Nat → Int32) (w1 : Int64) (g1 : Nat → Int64) (H : Heap) (locs : List Loc) (ls : Array Slot), XI v → YI v1 → YC f1 → progOK (f1 4) (f1 5) (v1 9).toInt.toNat → FREL v f v1 f1 → va_P (dC, dI) vwCl (XW cy x0 x v f ++ YW cy y0 r v1 f1 w1 g1) H → va_D (fun q : Nat => s.heap.size ≤ q) (XW cy x0 x v f ++ YW cy y0 r v1 f1 w1 g1) → va_S (fun q : Nat => s.heap.size ≤ q) s.heap H locs → lv_has ls 4 [(3, .int i), (2, .ref y0), (1, .ref x0), (0, .ref b)] → W p l e room_1 s m #[Value.ref b] below meth c H locs 81 11738 Q (F0 m 1413 ls [])) : W p l e room_1 s m #[Value.ref b] below meth c H locs 81 11738 Q (F0 m 592 ls []) := by
  have hA : ∀ q : Nat, s.heap.size ≤ q → (fun q : Nat => s.heap.size ≤ q) q := fun _ h => h
  have hbA : ¬ (fun q : Nat => s.heap.size ≤ q) b := Nat.not_le.mpr hbl
  refine lv_aload_n hx hb dL_law_592 rfl (lv_at hl 2 rfl) ?_
  refine lv_aload_n hx hb dL_law_593 rfl (lv_at hl 3 rfl) ?_
  refine lv_iload_n hx hb dL_law_594 rfl (lv_at hl 0 rfl) ?_
  refine lv_iconst (v := 1) hx hb dL_law_595 (by decide) ?_
  refine lv_iadd hx hb dL_law_596 ?_
  refine lv_topi (fun t1 et1 => ?_)
  have rg2 := fb_rng i
  have zt1 : t1.toInt = i.toInt + 1 := by rw [et1]; exact add_i rfl (by decide) (by omega) (by omega)
  refine va_sld hx hb hX hbl hbA hS (vp_in_iff.mpr ⟨by omega, by omega⟩) dL_law_597 ?_
  refine lv_topi (fun a3 ea3 => ?_)
  refine lv_aload_n hx hb dL_law_598 rfl (lv_at hl 3 rfl) ?_
  refine lv_iload_n hx hb dL_law_599 rfl (lv_at hl 0 rfl) ?_
  refine lv_iconst (v := 2) hx hb dL_law_600 (by decide) ?_
  refine lv_iadd hx hb dL_law_601 ?_
  refine lv_topi (fun t4 et4 => ?_)
  have zt4 : t4.toInt = i.toInt + 2 := by rw [et4]; exact add_i rfl (by decide) (by omega) (by omega)
  refine va_sld hx hb hX hbl hbA hS (vp_in_iff.mpr ⟨by omega, by omega⟩) dL_law_602 ?_
  refine lv_topi (fun a5 ea5 => ?_)
  refine caVi (n := 2) (wr := YW cy y0 r v1 f1 w1 g1) (rest := []) hx hb hml hown hts hE hP hD hS hA (sX_X10_hem_1 0 l dC dI cy x0 x a3 a5 v f hIv) k_909 k_910 k_911 k_101 k_912 hd_yX10_hem ⟨Nat.le_of_ble_eq_true rfl, Nat.le_of_ble_eq_true rfl⟩ [0, 1, 2, 3, 4, 5, 6, 7, 8, 9, 10, 11, 12, 13, 14, 15, 16, 17, 18, 19, 20, 21, 22, 23, 24, 25, 26, 27, 28, 29, 30, 31, 32, 33, 34, 35, 36, 37, 38, 39, 40, 41] [42, 43, 44, 45, 46, 47, 48, 49, 50, 51, 52, 53, 54, 55, 56, 57, 58, 59, 60, 61, 62, 63, 64, 65, 66, 67, 68, 69, 70, 71, 72, 73, 74, 75, 76, 77, 78, 79, 80] (lx1 cy x0 y0 x r v f v1 f1 w1 g1) (lx2 cy x0 y0 x r v f v1 f1 w1 g1) (lx3 cy x0 y0 x r v f v1 f1 w1 g1) lx4 lx5 lx6 0 10 rfl rfl rfl hl.1 rfl (Nat.le_of_ble_eq_true rfl) dL_law_603 ⟨Nat.le_of_ble_eq_true rfl, Nat.le_of_ble_eq_true rfl⟩ (fun r6 u H locs hw hP hD hS => ?_)
  obtain ⟨v7, f8⟩ := u
  obtain ⟨hGx, hVx, hFx, hIv7, hk0x, hk1x, hk7x, hk8x, hk9x, hk10x, hk31x, hk32x⟩ := hw
  have hP : va_P (dC, dI) vwCl (YW cy y0 r v1 f1 w1 g1 ++ XW cy x0 x v7 f8) H := hP
  have hD : va_D (fun q : Nat => s.heap.size ≤ q) (YW cy y0 r v1 f1 w1 g1 ++ XW cy x0 x v7 f8) := hD
  refine lv_pop hx hb dL_law_606 rfl ?_
  refine lv_aload_n hx hb dL_law_607 rfl (lv_at hl 1 rfl) ?_
  refine lv_aload_n hx hb dL_law_608 rfl (lv_at hl 3 rfl) ?_
  refine lv_iload_n hx hb dL_law_609 rfl (lv_at hl 0 rfl) ?_
  refine lv_iconst (v := 1) hx hb dL_law_610 (by decide) ?_
  refine lv_iadd hx hb dL_law_611 ?_
  refine tI (y := t1) et1.symm ?_
  refine va_sld hx hb hX hbl hbA hS (vp_in_iff.mpr ⟨by omega, by omega⟩) dL_law_612 ?_
  refine tI (y := a3) ea3.symm ?_
  refine lv_aload_n hx hb dL_law_613 rfl (lv_at hl 3 rfl) ?_
  refine lv_iload_n hx hb dL_law_614 rfl (lv_at hl 0 rfl) ?_
  refine lv_iconst (v := 2) hx hb dL_law_615 (by decide) ?_
  refine lv_iadd hx hb dL_law_616 ?_
  refine tI (y := t4) et4.symm ?_
  refine va_sld hx hb hX hbl hbA hS (vp_in_iff.mpr ⟨by omega, by omega⟩) dL_law_617 ?_
  refine tI (y := a5) ea5.symm ?_
  refine caVi (n := 2) (wr := XW cy x0 x v7 f8) (rest := []) hx hb hml hown hts hE hP hD hS hA (sY_X11_hem_1 0 l dC dI cy y0 r a3 a5 v1 f1 w1 g1 hIv1 hCf1 hRf1) k_1833 k_1834 k_1835 k_114 k_1836 hd_yX11_hem ⟨Nat.le_of_ble_eq_true rfl, Nat.le_of_ble_eq_true rfl⟩ [0, 1, 2, 3, 4, 5, 6, 7, 8, 9, 10, 11, 12, 13, 14, 15, 16, 17, 18, 19, 20, 21, 22, 23, 24, 25, 26, 27, 28, 29, 30, 31, 32, 33, 34, 35, 36, 37, 38] [39, 40, 41, 42, 43, 44, 45, 46, 47, 48, 49, 50, 51, 52, 53, 54, 55, 56, 57, 58, 59, 60, 61, 62, 63, 64, 65, 66, 67, 68, 69, 70, 71, 72, 73, 74, 75, 76, 77, 78, 79, 80] (ly1 cy x0 y0 x r v7 f8 v1 f1 w1 g1) (ly2 cy x0 y0 x r v7 f8 v1 f1 w1 g1) (ly3 cy x0 y0 x r v7 f8 v1 f1 w1 g1) ly4 ly5 ly6 0 11 rfl rfl rfl hl.1 rfl (Nat.le_of_ble_eq_true rfl) dL_law_618 ⟨Nat.le_of_ble_eq_true rfl, Nat.le_of_ble_eq_true rfl⟩ (fun r9 u H locs hw hP hD hS => ?_)
  obtain ⟨v10, f11, w12, g13⟩ := u
  obtain ⟨hGy, hVy, hFy, hIv10, hCf11, hRf11, hk0y, hk1y, hk2y, hk3y, hk4y, hk5y, hk8y, hk9y, hk10y, hk13y, hk14y, hk15y, hk17y, hk18y, hk24y, hk25y, hk38y, hk39y⟩ := hw
  have hpr := FREL.hem heq0 hGx hGy
  have hP : va_P (dC, dI) vwCl (XW cy x0 x v7 f8 ++ YW cy y0 r v10 f11 w12 g13) H := hP
  have hD : va_D (fun q : Nat => s.heap.size ≤ q) (XW cy x0 x v7 f8 ++ YW cy y0 r v10 f11 w12 g13) := hD
  refine lv_pop hx hb dL_law_621 rfl ?_
  refine lv_goto (tgt := 1413) hx hb dL_law_622 (by decide) ?_
  exact fin v7 f8 v10 f11 w12 g13 _ _ _ hIv7 hIv10 hCf11 hRf11 hpr.2 hP hD hS hl
set_option maxHeartbeats 4000000 in
set_option maxRecDepth 100000 in
theorem law_13 {p : Program} {l : Launch} {e : Env} {s : State} {m : MethodId} {below : List Frame} {meth : Method} {c : Code} {dC : Nat → ClassId} {dI : Nat → Nat → Nat} {cy : Nat → ClassId} {b L : Nat} {xs : Nat → Int32} {Q : State → Prop} {x0 y0 : Nat} {x r : Nat → Nat} (hx : p.tables.exec = Jvm.exec) (hb : c.code = code) (hml : c.maxLocals = 4) (hown : s.vm.findClass RL = some m.cls) (hts : ∀ w ∈ BIG, w.before #[Value.ref b] s = true) (hE : ENV (dC, dI) cy s) (hF : SRF (dC, dI) s) (hT : STR (dC, dI) (fun q : Nat => s.heap.size ≤ q) s s.heap) (hX : va_X b L xs s s.heap) (hbl : b < s.heap.size) (hL : L ≤ 3072) {v : Nat → Int32} {f : Nat → Nat → Int32} {v1 : Nat → Int32} {f1 : Nat → Nat → Int32} {w1 : Int64} {g1 : Nat → Int64} {i : Int32} (hi0 : 0 ≤ i.toInt) (hi6 : i.toInt + 6 ≤ L) {H : Heap} {locs : List Loc} {ls : Array Slot} (hIv : XI v) (hIv1 : YI v1) (hCf1 : YC f1) (hRf1 : progOK (f1 4) (f1 5) (v1 9).toInt.toNat) (heq0 : FREL v f v1 f1) (hP : va_P (dC, dI) vwCl (XW cy x0 x v f ++ YW cy y0 r v1 f1 w1 g1) H) (hD : va_D (fun q : Nat => s.heap.size ≤ q) (XW cy x0 x v f ++ YW cy y0 r v1 f1 w1 g1)) (hS : va_S (fun q : Nat => s.heap.size ≤ q) s.heap H locs) (hl : lv_has ls 4 [(3, .int i), (2, .ref y0), (1, .ref x0), (0, .ref b)]) (fin : ∀ (v : Nat → Int32) (f : Nat → Nat → Int32) (v1 : Nat → Int32) (f1 : Nat → Nat → Int32) (w1 : Int64) (g1 : Nat → Int64) (H : Heap) (locs : List Loc) (ls : Array Slot), XI v → YI v1 → YC f1 → progOK (f1 4) (f1 5) (v1 9).toInt.toNat → FREL v f v1 f1 → va_P (dC, dI) vwCl (XW cy x0 x v f ++ YW cy y0 r v1 f1 w1 g1) H → va_D (fun q : Nat => s.heap.size ≤ q) (XW cy x0 x v f ++ YW cy y0 r v1 f1 w1 g1) → va_S (fun q : Nat => s.heap.size ≤ q) s.heap H locs → lv_has ls 4 [(3, .int i), (2, .ref y0), (1, .ref x0), (0, .ref b)] → W p l e room_1 s m #[Value.ref b] below meth c H locs 81 11738 Q (F0 m 1413 ls [])) : W p l e room_1 s m #[Value.ref b] below meth c H locs 81 11738 Q (F0 m 625 ls []) := by
  have hA : ∀ q : Nat, s.heap.size ≤ q → (fun q : Nat => s.heap.size ≤ q) q := fun _ h => h
  have hbA : ¬ (fun q : Nat => s.heap.size ≤ q) b := Nat.not_le.mpr hbl
  refine lv_aload_n hx hb dL_law_625 rfl (lv_at hl 2 rfl) ?_
  refine lv_aload_n hx hb dL_law_626 rfl (lv_at hl 3 rfl) ?_
  refine lv_iload_n hx hb dL_law_627 rfl (lv_at hl 0 rfl) ?_
  refine lv_iconst (v := 1) hx hb dL_law_628 (by decide) ?_
  refine lv_iadd hx hb dL_law_629 ?_
  refine lv_topi (fun t1 et1 => ?_)
  have rg2 := fb_rng i
  have zt1 : t1.toInt = i.toInt + 1 := by rw [et1]; exact add_i rfl (by decide) (by omega) (by omega)
  refine va_sld hx hb hX hbl hbA hS (vp_in_iff.mpr ⟨by omega, by omega⟩) dL_law_630 ?_
  refine lv_topi (fun a3 ea3 => ?_)
  refine caVi (n := 1) (wr := YW cy y0 r v1 f1 w1 g1) (rest := []) hx hb hml hown hts hE hP hD hS hA (sX_X10_turn_1 0 l dC dI cy x0 x a3 v f hIv) k_913 k_914 k_915 k_101 k_916 hd_yX10_turn ⟨Nat.le_of_ble_eq_true rfl, Nat.le_of_ble_eq_true rfl⟩ [0, 1, 2, 3, 4, 5, 6, 7, 8, 9, 10, 11, 12, 13, 14, 15, 16, 17, 18, 19, 20, 21, 22, 23, 24, 25, 26, 27, 28, 29, 30, 31, 32, 33, 34, 35, 36, 37, 38, 39, 40, 41] [42, 43, 44, 45, 46, 47, 48, 49, 50, 51, 52, 53, 54, 55, 56, 57, 58, 59, 60, 61, 62, 63, 64, 65, 66, 67, 68, 69, 70, 71, 72, 73, 74, 75, 76, 77, 78, 79, 80] (lx1 cy x0 y0 x r v f v1 f1 w1 g1) (lx2 cy x0 y0 x r v f v1 f1 w1 g1) (lx3 cy x0 y0 x r v f v1 f1 w1 g1) lx4 lx5 lx6 0 10 rfl rfl rfl hl.1 rfl (Nat.le_of_ble_eq_true rfl) dL_law_631 ⟨Nat.le_of_ble_eq_true rfl, Nat.le_of_ble_eq_true rfl⟩ (fun r4 u H locs hw hP hD hS => ?_)
  obtain ⟨v5, f6⟩ := u
  obtain ⟨hGx, hVx, hFx, hIv5, hk0x, hk1x, hk7x, hk8x, hk9x, hk10x, hk31x, hk32x⟩ := hw
  have hP : va_P (dC, dI) vwCl (YW cy y0 r v1 f1 w1 g1 ++ XW cy x0 x v5 f6) H := hP
  have hD : va_D (fun q : Nat => s.heap.size ≤ q) (YW cy y0 r v1 f1 w1 g1 ++ XW cy x0 x v5 f6) := hD
  refine lv_pop hx hb dL_law_634 rfl ?_
  refine lv_aload_n hx hb dL_law_635 rfl (lv_at hl 1 rfl) ?_
  refine lv_aload_n hx hb dL_law_636 rfl (lv_at hl 3 rfl) ?_
  refine lv_iload_n hx hb dL_law_637 rfl (lv_at hl 0 rfl) ?_
  refine lv_iconst (v := 1) hx hb dL_law_638 (by decide) ?_
  refine lv_iadd hx hb dL_law_639 ?_
  refine tI (y := t1) et1.symm ?_
  refine va_sld hx hb hX hbl hbA hS (vp_in_iff.mpr ⟨by omega, by omega⟩) dL_law_640 ?_
  refine tI (y := a3) ea3.symm ?_
  refine caVi (n := 1) (wr := XW cy x0 x v5 f6) (rest := []) hx hb hml hown hts hE hP hD hS hA (sY_X11_turn_1 0 l dC dI cy y0 r a3 v1 f1 w1 g1 hIv1 hCf1 hRf1) k_1837 k_1838 k_1839 k_114 k_1840 hd_yX11_turn ⟨Nat.le_of_ble_eq_true rfl, Nat.le_of_ble_eq_true rfl⟩ [0, 1, 2, 3, 4, 5, 6, 7, 8, 9, 10, 11, 12, 13, 14, 15, 16, 17, 18, 19, 20, 21, 22, 23, 24, 25, 26, 27, 28, 29, 30, 31, 32, 33, 34, 35, 36, 37, 38] [39, 40, 41, 42, 43, 44, 45, 46, 47, 48, 49, 50, 51, 52, 53, 54, 55, 56, 57, 58, 59, 60, 61, 62, 63, 64, 65, 66, 67, 68, 69, 70, 71, 72, 73, 74, 75, 76, 77, 78, 79, 80] (ly1 cy x0 y0 x r v5 f6 v1 f1 w1 g1) (ly2 cy x0 y0 x r v5 f6 v1 f1 w1 g1) (ly3 cy x0 y0 x r v5 f6 v1 f1 w1 g1) ly4 ly5 ly6 0 11 rfl rfl rfl hl.1 rfl (Nat.le_of_ble_eq_true rfl) dL_law_641 ⟨Nat.le_of_ble_eq_true rfl, Nat.le_of_ble_eq_true rfl⟩ (fun r7 u H locs hw hP hD hS => ?_)
  obtain ⟨v8, f9, w10, g11⟩ := u
  obtain ⟨hGy, hVy, hFy, hIv8, hCf9, hRf9, hk0y, hk1y, hk2y, hk3y, hk4y, hk5y, hk8y, hk9y, hk10y, hk13y, hk14y, hk15y, hk17y, hk18y, hk24y, hk25y, hk38y, hk39y⟩ := hw
  have hpr := FREL.turn heq0 hGx hGy
  have hP : va_P (dC, dI) vwCl (XW cy x0 x v5 f6 ++ YW cy y0 r v8 f9 w10 g11) H := hP
  have hD : va_D (fun q : Nat => s.heap.size ≤ q) (XW cy x0 x v5 f6 ++ YW cy y0 r v8 f9 w10 g11) := hD
  refine lv_pop hx hb dL_law_644 rfl ?_
  refine lv_goto (tgt := 1413) hx hb dL_law_645 (by decide) ?_
  exact fin v5 f6 v8 f9 w10 g11 _ _ _ hIv5 hIv8 hCf9 hRf9 hpr.2 hP hD hS hl
set_option maxHeartbeats 4000000 in
set_option maxRecDepth 100000 in
theorem law_14 {p : Program} {l : Launch} {e : Env} {s : State} {m : MethodId} {below : List Frame} {meth : Method} {c : Code} {dC : Nat → ClassId} {dI : Nat → Nat → Nat} {cy : Nat → ClassId} {b L : Nat} {xs : Nat → Int32} {Q : State → Prop} {x0 y0 : Nat} {x r : Nat → Nat} (hx : p.tables.exec = Jvm.exec) (hb : c.code = code) (hml : c.maxLocals = 4) (hown : s.vm.findClass RL = some m.cls) (hts : ∀ w ∈ BIG, w.before #[Value.ref b] s = true) (hE : ENV (dC, dI) cy s) (hF : SRF (dC, dI) s) (hT : STR (dC, dI) (fun q : Nat => s.heap.size ≤ q) s s.heap) (hX : va_X b L xs s s.heap) (hbl : b < s.heap.size) (hL : L ≤ 3072) {v : Nat → Int32} {f : Nat → Nat → Int32} {v1 : Nat → Int32} {f1 : Nat → Nat → Int32} {w1 : Int64} {g1 : Nat → Int64} {i : Int32} (hi0 : 0 ≤ i.toInt) (hi6 : i.toInt + 6 ≤ L) {H : Heap} {locs : List Loc} {ls : Array Slot} (hIv : XI v) (hIv1 : YI v1) (hCf1 : YC f1) (hRf1 : progOK (f1 4) (f1 5) (v1 9).toInt.toNat) (heq0 : FREL v f v1 f1) (hP : va_P (dC, dI) vwCl (XW cy x0 x v f ++ YW cy y0 r v1 f1 w1 g1) H) (hD : va_D (fun q : Nat => s.heap.size ≤ q) (XW cy x0 x v f ++ YW cy y0 r v1 f1 w1 g1)) (hS : va_S (fun q : Nat => s.heap.size ≤ q) s.heap H locs) (hl : lv_has ls 4 [(3, .int i), (2, .ref y0), (1, .ref x0), (0, .ref b)]) (fin : ∀ (v : Nat → Int32) (f : Nat → Nat → Int32) (v1 : Nat → Int32) (f1 : Nat → Nat → Int32) (w1 : Int64) (g1 : Nat → Int64) (H : Heap) (locs : List Loc) (ls : Array Slot), XI v → YI v1 → YC f1 → progOK (f1 4) (f1 5) (v1 9).toInt.toNat → FREL v f v1 f1 → va_P (dC, dI) vwCl (XW cy x0 x v f ++ YW cy y0 r v1 f1 w1 g1) H → va_D (fun q : Nat => s.heap.size ≤ q) (XW cy x0 x v f ++ YW cy y0 r v1 f1 w1 g1) → va_S (fun q : Nat => s.heap.size ≤ q) s.heap H locs → lv_has ls 4 [(3, .int i), (2, .ref y0), (1, .ref x0), (0, .ref b)] → W p l e room_1 s m #[Value.ref b] below meth c H locs 81 11738 Q (F0 m 1413 ls [])) : W p l e room_1 s m #[Value.ref b] below meth c H locs 81 11738 Q (F0 m 648 ls []) := by
  have hA : ∀ q : Nat, s.heap.size ≤ q → (fun q : Nat => s.heap.size ≤ q) q := fun _ h => h
  have hbA : ¬ (fun q : Nat => s.heap.size ≤ q) b := Nat.not_le.mpr hbl
  refine lv_aload_n hx hb dL_law_648 rfl (lv_at hl 2 rfl) ?_
  refine caVi (n := 0) (wr := YW cy y0 r v1 f1 w1 g1) (rest := []) hx hb hml hown hts hE hP hD hS hA (sX_X10_undo_1 0 l dC dI cy x0 x  v f hIv) k_917 k_918 k_919 k_101 k_920 hd_yX10_undo ⟨Nat.le_of_ble_eq_true rfl, Nat.le_of_ble_eq_true rfl⟩ [0, 1, 2, 3, 4, 5, 6, 7, 8, 9, 10, 11, 12, 13, 14, 15, 16, 17, 18, 19, 20, 21, 22, 23, 24, 25, 26, 27, 28, 29, 30, 31, 32, 33, 34, 35, 36, 37, 38, 39, 40, 41] [42, 43, 44, 45, 46, 47, 48, 49, 50, 51, 52, 53, 54, 55, 56, 57, 58, 59, 60, 61, 62, 63, 64, 65, 66, 67, 68, 69, 70, 71, 72, 73, 74, 75, 76, 77, 78, 79, 80] (lx1 cy x0 y0 x r v f v1 f1 w1 g1) (lx2 cy x0 y0 x r v f v1 f1 w1 g1) (lx3 cy x0 y0 x r v f v1 f1 w1 g1) lx4 lx5 lx6 0 10 rfl rfl rfl hl.1 rfl (Nat.le_of_ble_eq_true rfl) dL_law_649 ⟨Nat.le_of_ble_eq_true rfl, Nat.le_of_ble_eq_true rfl⟩ (fun r1 u H locs hw hP hD hS => ?_)
  obtain ⟨v2, f3⟩ := u
  obtain ⟨hGx, hVx, hFx, hIv2, hk0x, hk1x, hk7x, hk8x, hk9x, hk10x, hk31x, hk32x, hz0x⟩ := hw
  have hP : va_P (dC, dI) vwCl (YW cy y0 r v1 f1 w1 g1 ++ XW cy x0 x v2 f3) H := hP
  have hD : va_D (fun q : Nat => s.heap.size ≤ q) (YW cy y0 r v1 f1 w1 g1 ++ XW cy x0 x v2 f3) := hD
  refine lv_pop hx hb dL_law_652 rfl ?_
  refine lv_aload_n hx hb dL_law_653 rfl (lv_at hl 1 rfl) ?_
  refine caVi (n := 0) (wr := XW cy x0 x v2 f3) (rest := []) hx hb hml hown hts hE hP hD hS hA (sY_X11_undo_1 0 l dC dI cy y0 r  v1 f1 w1 g1 hIv1 hCf1 hRf1) k_1841 k_1842 k_1843 k_114 k_1844 hd_yX11_undo ⟨Nat.le_of_ble_eq_true rfl, Nat.le_of_ble_eq_true rfl⟩ [0, 1, 2, 3, 4, 5, 6, 7, 8, 9, 10, 11, 12, 13, 14, 15, 16, 17, 18, 19, 20, 21, 22, 23, 24, 25, 26, 27, 28, 29, 30, 31, 32, 33, 34, 35, 36, 37, 38] [39, 40, 41, 42, 43, 44, 45, 46, 47, 48, 49, 50, 51, 52, 53, 54, 55, 56, 57, 58, 59, 60, 61, 62, 63, 64, 65, 66, 67, 68, 69, 70, 71, 72, 73, 74, 75, 76, 77, 78, 79, 80] (ly1 cy x0 y0 x r v2 f3 v1 f1 w1 g1) (ly2 cy x0 y0 x r v2 f3 v1 f1 w1 g1) (ly3 cy x0 y0 x r v2 f3 v1 f1 w1 g1) ly4 ly5 ly6 0 11 rfl rfl rfl hl.1 rfl (Nat.le_of_ble_eq_true rfl) dL_law_654 ⟨Nat.le_of_ble_eq_true rfl, Nat.le_of_ble_eq_true rfl⟩ (fun r4 u H locs hw hP hD hS => ?_)
  obtain ⟨v5, f6, w7, g8⟩ := u
  obtain ⟨hGy, hVy, hFy, hIv5, hCf6, hRf6, hk0y, hk1y, hk2y, hk3y, hk4y, hk5y, hk8y, hk9y, hk10y, hk13y, hk14y, hk15y, hk17y, hk18y, hk24y, hk25y, hk38y, hk39y, hz0y⟩ := hw
  have hpr := FREL.undo heq0 hGx hGy
  have hP : va_P (dC, dI) vwCl (XW cy x0 x v2 f3 ++ YW cy y0 r v5 f6 w7 g8) H := hP
  have hD : va_D (fun q : Nat => s.heap.size ≤ q) (XW cy x0 x v2 f3 ++ YW cy y0 r v5 f6 w7 g8) := hD
  refine lv_pop hx hb dL_law_657 rfl ?_
  refine lv_goto (tgt := 1413) hx hb dL_law_658 (by decide) ?_
  exact fin v2 f3 v5 f6 w7 g8 _ _ _ hIv2 hIv5 hCf6 hRf6 hpr.2 hP hD hS hl
set_option maxHeartbeats 4000000 in
set_option maxRecDepth 100000 in
theorem law_15 {p : Program} {l : Launch} {e : Env} {s : State} {m : MethodId} {below : List Frame} {meth : Method} {c : Code} {dC : Nat → ClassId} {dI : Nat → Nat → Nat} {cy : Nat → ClassId} {b L : Nat} {xs : Nat → Int32} {Q : State → Prop} {x0 y0 : Nat} {x r : Nat → Nat} (hx : p.tables.exec = Jvm.exec) (hb : c.code = code) (hml : c.maxLocals = 4) (hown : s.vm.findClass RL = some m.cls) (hts : ∀ w ∈ BIG, w.before #[Value.ref b] s = true) (hE : ENV (dC, dI) cy s) (hF : SRF (dC, dI) s) (hT : STR (dC, dI) (fun q : Nat => s.heap.size ≤ q) s s.heap) (hX : va_X b L xs s s.heap) (hbl : b < s.heap.size) (hL : L ≤ 3072) {v : Nat → Int32} {f : Nat → Nat → Int32} {v1 : Nat → Int32} {f1 : Nat → Nat → Int32} {w1 : Int64} {g1 : Nat → Int64} {i : Int32} (hi0 : 0 ≤ i.toInt) (hi6 : i.toInt + 6 ≤ L) {H : Heap} {locs : List Loc} {ls : Array Slot} (hIv : XI v) (hIv1 : YI v1) (hCf1 : YC f1) (hRf1 : progOK (f1 4) (f1 5) (v1 9).toInt.toNat) (heq0 : FREL v f v1 f1) (hP : va_P (dC, dI) vwCl (XW cy x0 x v f ++ YW cy y0 r v1 f1 w1 g1) H) (hD : va_D (fun q : Nat => s.heap.size ≤ q) (XW cy x0 x v f ++ YW cy y0 r v1 f1 w1 g1)) (hS : va_S (fun q : Nat => s.heap.size ≤ q) s.heap H locs) (hl : lv_has ls 4 [(3, .int i), (2, .ref y0), (1, .ref x0), (0, .ref b)]) (fin : ∀ (v : Nat → Int32) (f : Nat → Nat → Int32) (v1 : Nat → Int32) (f1 : Nat → Nat → Int32) (w1 : Int64) (g1 : Nat → Int64) (H : Heap) (locs : List Loc) (ls : Array Slot), XI v → YI v1 → YC f1 → progOK (f1 4) (f1 5) (v1 9).toInt.toNat → FREL v f v1 f1 → va_P (dC, dI) vwCl (XW cy x0 x v f ++ YW cy y0 r v1 f1 w1 g1) H → va_D (fun q : Nat => s.heap.size ≤ q) (XW cy x0 x v f ++ YW cy y0 r v1 f1 w1 g1) → va_S (fun q : Nat => s.heap.size ≤ q) s.heap H locs → lv_has ls 4 [(3, .int i), (2, .ref y0), (1, .ref x0), (0, .ref b)] → W p l e room_1 s m #[Value.ref b] below meth c H locs 81 11738 Q (F0 m 1413 ls [])) : W p l e room_1 s m #[Value.ref b] below meth c H locs 81 11738 Q (F0 m 661 ls []) := by
  have hA : ∀ q : Nat, s.heap.size ≤ q → (fun q : Nat => s.heap.size ≤ q) q := fun _ h => h
  have hbA : ¬ (fun q : Nat => s.heap.size ≤ q) b := Nat.not_le.mpr hbl
  refine lv_aload_n hx hb dL_law_661 rfl (lv_at hl 2 rfl) ?_
  refine caVi (n := 0) (wr := YW cy y0 r v1 f1 w1 g1) (rest := []) hx hb hml hown hts hE hP hD hS hA (sX_X10_redo_1 0 l dC dI cy x0 x  v f hIv) k_929 k_930 k_931 k_101 k_932 hd_yX10_redo ⟨Nat.le_of_ble_eq_true rfl, Nat.le_of_ble_eq_true rfl⟩ [0, 1, 2, 3, 4, 5, 6, 7, 8, 9, 10, 11, 12, 13, 14, 15, 16, 17, 18, 19, 20, 21, 22, 23, 24, 25, 26, 27, 28, 29, 30, 31, 32, 33, 34, 35, 36, 37, 38, 39, 40, 41] [42, 43, 44, 45, 46, 47, 48, 49, 50, 51, 52, 53, 54, 55, 56, 57, 58, 59, 60, 61, 62, 63, 64, 65, 66, 67, 68, 69, 70, 71, 72, 73, 74, 75, 76, 77, 78, 79, 80] (lx1 cy x0 y0 x r v f v1 f1 w1 g1) (lx2 cy x0 y0 x r v f v1 f1 w1 g1) (lx3 cy x0 y0 x r v f v1 f1 w1 g1) lx4 lx5 lx6 0 10 rfl rfl rfl hl.1 rfl (Nat.le_of_ble_eq_true rfl) dL_law_662 ⟨Nat.le_of_ble_eq_true rfl, Nat.le_of_ble_eq_true rfl⟩ (fun r1 u H locs hw hP hD hS => ?_)
  obtain ⟨v2, f3⟩ := u
  obtain ⟨hGx, hVx, hFx, hIv2, hk0x, hk1x, hk7x, hk8x, hk9x, hk10x, hk31x, hk32x, hz0x⟩ := hw
  have hP : va_P (dC, dI) vwCl (YW cy y0 r v1 f1 w1 g1 ++ XW cy x0 x v2 f3) H := hP
  have hD : va_D (fun q : Nat => s.heap.size ≤ q) (YW cy y0 r v1 f1 w1 g1 ++ XW cy x0 x v2 f3) := hD
  refine lv_pop hx hb dL_law_665 rfl ?_
  refine lv_aload_n hx hb dL_law_666 rfl (lv_at hl 1 rfl) ?_
  refine caVi (n := 0) (wr := XW cy x0 x v2 f3) (rest := []) hx hb hml hown hts hE hP hD hS hA (sY_X11_redo_1 0 l dC dI cy y0 r  v1 f1 w1 g1 hIv1 hCf1 hRf1) k_1849 k_1850 k_1851 k_114 k_1852 hd_yX11_redo ⟨Nat.le_of_ble_eq_true rfl, Nat.le_of_ble_eq_true rfl⟩ [0, 1, 2, 3, 4, 5, 6, 7, 8, 9, 10, 11, 12, 13, 14, 15, 16, 17, 18, 19, 20, 21, 22, 23, 24, 25, 26, 27, 28, 29, 30, 31, 32, 33, 34, 35, 36, 37, 38] [39, 40, 41, 42, 43, 44, 45, 46, 47, 48, 49, 50, 51, 52, 53, 54, 55, 56, 57, 58, 59, 60, 61, 62, 63, 64, 65, 66, 67, 68, 69, 70, 71, 72, 73, 74, 75, 76, 77, 78, 79, 80] (ly1 cy x0 y0 x r v2 f3 v1 f1 w1 g1) (ly2 cy x0 y0 x r v2 f3 v1 f1 w1 g1) (ly3 cy x0 y0 x r v2 f3 v1 f1 w1 g1) ly4 ly5 ly6 0 11 rfl rfl rfl hl.1 rfl (Nat.le_of_ble_eq_true rfl) dL_law_667 ⟨Nat.le_of_ble_eq_true rfl, Nat.le_of_ble_eq_true rfl⟩ (fun r4 u H locs hw hP hD hS => ?_)
  obtain ⟨v5, f6, w7, g8⟩ := u
  obtain ⟨hGy, hVy, hFy, hIv5, hCf6, hRf6, hk0y, hk1y, hk2y, hk3y, hk4y, hk5y, hk8y, hk9y, hk10y, hk13y, hk14y, hk15y, hk17y, hk18y, hk24y, hk25y, hk38y, hk39y, hz0y⟩ := hw
  have hpr := FREL.redo heq0 hGx hGy
  have hP : va_P (dC, dI) vwCl (XW cy x0 x v2 f3 ++ YW cy y0 r v5 f6 w7 g8) H := hP
  have hD : va_D (fun q : Nat => s.heap.size ≤ q) (XW cy x0 x v2 f3 ++ YW cy y0 r v5 f6 w7 g8) := hD
  refine lv_pop hx hb dL_law_670 rfl ?_
  refine lv_goto (tgt := 1413) hx hb dL_law_671 (by decide) ?_
  exact fin v2 f3 v5 f6 w7 g8 _ _ _ hIv2 hIv5 hCf6 hRf6 hpr.2 hP hD hS hl
set_option maxHeartbeats 4000000 in
set_option maxRecDepth 100000 in
theorem law_16 {p : Program} {l : Launch} {e : Env} {s : State} {m : MethodId} {below : List Frame} {meth : Method} {c : Code} {dC : Nat → ClassId} {dI : Nat → Nat → Nat} {cy : Nat → ClassId} {b L : Nat} {xs : Nat → Int32} {Q : State → Prop} {x0 y0 : Nat} {x r : Nat → Nat} (hx : p.tables.exec = Jvm.exec) (hb : c.code = code) (hml : c.maxLocals = 4) (hown : s.vm.findClass RL = some m.cls) (hts : ∀ w ∈ BIG, w.before #[Value.ref b] s = true) (hE : ENV (dC, dI) cy s) (hF : SRF (dC, dI) s) (hT : STR (dC, dI) (fun q : Nat => s.heap.size ≤ q) s s.heap) (hX : va_X b L xs s s.heap) (hbl : b < s.heap.size) (hL : L ≤ 3072) {v : Nat → Int32} {f : Nat → Nat → Int32} {v1 : Nat → Int32} {f1 : Nat → Nat → Int32} {w1 : Int64} {g1 : Nat → Int64} {i : Int32} (hi0 : 0 ≤ i.toInt) (hi6 : i.toInt + 6 ≤ L) {H : Heap} {locs : List Loc} {ls : Array Slot} (hIv : XI v) (hIv1 : YI v1) (hCf1 : YC f1) (hRf1 : progOK (f1 4) (f1 5) (v1 9).toInt.toNat) (heq0 : FREL v f v1 f1) (hP : va_P (dC, dI) vwCl (XW cy x0 x v f ++ YW cy y0 r v1 f1 w1 g1) H) (hD : va_D (fun q : Nat => s.heap.size ≤ q) (XW cy x0 x v f ++ YW cy y0 r v1 f1 w1 g1)) (hS : va_S (fun q : Nat => s.heap.size ≤ q) s.heap H locs) (hl : lv_has ls 4 [(3, .int i), (2, .ref y0), (1, .ref x0), (0, .ref b)]) (fin : ∀ (v : Nat → Int32) (f : Nat → Nat → Int32) (v1 : Nat → Int32) (f1 : Nat → Nat → Int32) (w1 : Int64) (g1 : Nat → Int64) (H : Heap) (locs : List Loc) (ls : Array Slot), XI v → YI v1 → YC f1 → progOK (f1 4) (f1 5) (v1 9).toInt.toNat → FREL v f v1 f1 → va_P (dC, dI) vwCl (XW cy x0 x v f ++ YW cy y0 r v1 f1 w1 g1) H → va_D (fun q : Nat => s.heap.size ≤ q) (XW cy x0 x v f ++ YW cy y0 r v1 f1 w1 g1) → va_S (fun q : Nat => s.heap.size ≤ q) s.heap H locs → lv_has ls 4 [(3, .int i), (2, .ref y0), (1, .ref x0), (0, .ref b)] → W p l e room_1 s m #[Value.ref b] below meth c H locs 81 11738 Q (F0 m 1413 ls [])) : W p l e room_1 s m #[Value.ref b] below meth c H locs 81 11738 Q (F0 m 674 ls []) := by
  have hA : ∀ q : Nat, s.heap.size ≤ q → (fun q : Nat => s.heap.size ≤ q) q := fun _ h => h
  have hbA : ¬ (fun q : Nat => s.heap.size ≤ q) b := Nat.not_le.mpr hbl
  refine lv_aload_n hx hb dL_law_674 rfl (lv_at hl 2 rfl) ?_
  refine lv_aload_n hx hb dL_law_675 rfl (lv_at hl 3 rfl) ?_
  refine lv_iload_n hx hb dL_law_676 rfl (lv_at hl 0 rfl) ?_
  refine lv_iconst (v := 1) hx hb dL_law_677 (by decide) ?_
  refine lv_iadd hx hb dL_law_678 ?_
  refine lv_topi (fun t1 et1 => ?_)
  have rg2 := fb_rng i
  have zt1 : t1.toInt = i.toInt + 1 := by rw [et1]; exact add_i rfl (by decide) (by omega) (by omega)
  refine va_sld hx hb hX hbl hbA hS (vp_in_iff.mpr ⟨by omega, by omega⟩) dL_law_679 ?_
  refine lv_topi (fun a3 ea3 => ?_)
  refine lv_aload_n hx hb dL_law_680 rfl (lv_at hl 3 rfl) ?_
  refine lv_iload_n hx hb dL_law_681 rfl (lv_at hl 0 rfl) ?_
  refine lv_iconst (v := 2) hx hb dL_law_682 (by decide) ?_
  refine lv_iadd hx hb dL_law_683 ?_
  refine lv_topi (fun t4 et4 => ?_)
  have zt4 : t4.toInt = i.toInt + 2 := by rw [et4]; exact add_i rfl (by decide) (by omega) (by omega)
  refine va_sld hx hb hX hbl hbA hS (vp_in_iff.mpr ⟨by omega, by omega⟩) dL_law_684 ?_
  refine lv_topi (fun a5 ea5 => ?_)
  refine lv_aload_n hx hb dL_law_685 rfl (lv_at hl 3 rfl) ?_
  refine lv_iload_n hx hb dL_law_686 rfl (lv_at hl 0 rfl) ?_
  refine lv_iconst (v := 3) hx hb dL_law_687 (by decide) ?_
  refine lv_iadd hx hb dL_law_688 ?_
  refine lv_topi (fun t6 et6 => ?_)
  have zt6 : t6.toInt = i.toInt + 3 := by rw [et6]; exact add_i rfl (by decide) (by omega) (by omega)
  refine va_sld hx hb hX hbl hbA hS (vp_in_iff.mpr ⟨by omega, by omega⟩) dL_law_689 ?_
  refine lv_topi (fun a7 ea7 => ?_)
  refine caVi (n := 3) (wr := YW cy y0 r v1 f1 w1 g1) (rest := []) hx hb hml hown hts hE hP hD hS hA (sX_X10_will_1 l dC dI cy x0 x a3 a5 a7 v f hIv) k_937 k_938 k_939 k_101 k_940 hd_yX10_will ⟨Nat.le_of_ble_eq_true rfl, Nat.le_of_ble_eq_true rfl⟩ [0, 1, 2, 3, 4, 5, 6, 7, 8, 9, 10, 11, 12, 13, 14, 15, 16, 17, 18, 19, 20, 21, 22, 23, 24, 25, 26, 27, 28, 29, 30, 31, 32, 33, 34, 35, 36, 37, 38, 39, 40, 41] [42, 43, 44, 45, 46, 47, 48, 49, 50, 51, 52, 53, 54, 55, 56, 57, 58, 59, 60, 61, 62, 63, 64, 65, 66, 67, 68, 69, 70, 71, 72, 73, 74, 75, 76, 77, 78, 79, 80] (lx1 cy x0 y0 x r v f v1 f1 w1 g1) (lx2 cy x0 y0 x r v f v1 f1 w1 g1) (lx3 cy x0 y0 x r v f v1 f1 w1 g1) lx4 lx5 lx6 0 10 rfl rfl rfl hl.1 rfl (Nat.le_of_ble_eq_true rfl) dL_law_690 ⟨Nat.le_of_ble_eq_true rfl, Nat.le_of_ble_eq_true rfl⟩ (fun r8 u H locs hw hP hD hS => ?_)
  obtain ⟨v9, f10⟩ := u
  obtain ⟨hVx, hFx, hIv9, hk0x, hk1x, hk7x, hk8x, hk9x, hk10x, hk31x, hk32x⟩ := hw
  have hP : va_P (dC, dI) vwCl (YW cy y0 r v1 f1 w1 g1 ++ XW cy x0 x v9 f10) H := hP
  have hD : va_D (fun q : Nat => s.heap.size ≤ q) (YW cy y0 r v1 f1 w1 g1 ++ XW cy x0 x v9 f10) := hD
  refine lv_pop hx hb dL_law_693 rfl ?_
  refine lv_aload_n hx hb dL_law_694 rfl (lv_at hl 1 rfl) ?_
  refine lv_aload_n hx hb dL_law_695 rfl (lv_at hl 3 rfl) ?_
  refine lv_iload_n hx hb dL_law_696 rfl (lv_at hl 0 rfl) ?_
  refine lv_iconst (v := 1) hx hb dL_law_697 (by decide) ?_
  refine lv_iadd hx hb dL_law_698 ?_
  refine tI (y := t1) et1.symm ?_
  refine va_sld hx hb hX hbl hbA hS (vp_in_iff.mpr ⟨by omega, by omega⟩) dL_law_699 ?_
  refine tI (y := a3) ea3.symm ?_
  refine lv_aload_n hx hb dL_law_700 rfl (lv_at hl 3 rfl) ?_
  refine lv_iload_n hx hb dL_law_701 rfl (lv_at hl 0 rfl) ?_
  refine lv_iconst (v := 2) hx hb dL_law_702 (by decide) ?_
  refine lv_iadd hx hb dL_law_703 ?_
  refine tI (y := t4) et4.symm ?_
  refine va_sld hx hb hX hbl hbA hS (vp_in_iff.mpr ⟨by omega, by omega⟩) dL_law_704 ?_
  refine tI (y := a5) ea5.symm ?_
  refine lv_aload_n hx hb dL_law_705 rfl (lv_at hl 3 rfl) ?_
  refine lv_iload_n hx hb dL_law_706 rfl (lv_at hl 0 rfl) ?_
  refine lv_iconst (v := 3) hx hb dL_law_707 (by decide) ?_
  refine lv_iadd hx hb dL_law_708 ?_
  refine tI (y := t6) et6.symm ?_
  refine va_sld hx hb hX hbl hbA hS (vp_in_iff.mpr ⟨by omega, by omega⟩) dL_law_709 ?_
  refine tI (y := a7) ea7.symm ?_
  refine caVi (n := 3) (wr := XW cy x0 x v9 f10) (rest := []) hx hb hml hown hts hE hP hD hS hA (sY_X11_will_1 l dC dI cy y0 r a3 a5 a7 v1 f1 w1 g1 hIv1 hCf1 hRf1) k_1853 k_1854 k_1855 k_114 k_1856 hd_yX11_will ⟨Nat.le_of_ble_eq_true rfl, Nat.le_of_ble_eq_true rfl⟩ [0, 1, 2, 3, 4, 5, 6, 7, 8, 9, 10, 11, 12, 13, 14, 15, 16, 17, 18, 19, 20, 21, 22, 23, 24, 25, 26, 27, 28, 29, 30, 31, 32, 33, 34, 35, 36, 37, 38] [39, 40, 41, 42, 43, 44, 45, 46, 47, 48, 49, 50, 51, 52, 53, 54, 55, 56, 57, 58, 59, 60, 61, 62, 63, 64, 65, 66, 67, 68, 69, 70, 71, 72, 73, 74, 75, 76, 77, 78, 79, 80] (ly1 cy x0 y0 x r v9 f10 v1 f1 w1 g1) (ly2 cy x0 y0 x r v9 f10 v1 f1 w1 g1) (ly3 cy x0 y0 x r v9 f10 v1 f1 w1 g1) ly4 ly5 ly6 0 11 rfl rfl rfl hl.1 rfl (Nat.le_of_ble_eq_true rfl) dL_law_710 ⟨Nat.le_of_ble_eq_true rfl, Nat.le_of_ble_eq_true rfl⟩ (fun r11 u H locs hw hP hD hS => ?_)
  obtain ⟨v12, f13, w14, g15⟩ := u
  obtain ⟨hVy, hFy, hIv12, hCf13, hRf13, hk0y, hk1y, hk2y, hk3y, hk4y, hk5y, hk8y, hk9y, hk10y, hk13y, hk14y, hk15y, hk17y, hk18y, hk24y, hk25y, hk35y, hk36y, hk38y, hk39y⟩ := hw
  have hP : va_P (dC, dI) vwCl (XW cy x0 x v9 f10 ++ YW cy y0 r v12 f13 w14 g15) H := hP
  have hD : va_D (fun q : Nat => s.heap.size ≤ q) (XW cy x0 x v9 f10 ++ YW cy y0 r v12 f13 w14 g15) := hD
  refine lv_pop hx hb dL_law_713 rfl ?_
  refine lv_goto (tgt := 1413) hx hb dL_law_714 (by decide) ?_
  exact fin v9 f10 v12 f13 w14 g15 _ _ _ hIv9 hIv12 hCf13 hRf13 (FREL.keep heq0 (KV.use hVx rfl) (KF.use hFx rfl) (KV.use hVy rfl) (KF.use hFy rfl)) hP hD hS hl
set_option maxHeartbeats 4000000 in
set_option maxRecDepth 100000 in
theorem law_17 {p : Program} {l : Launch} {e : Env} {s : State} {m : MethodId} {below : List Frame} {meth : Method} {c : Code} {dC : Nat → ClassId} {dI : Nat → Nat → Nat} {cy : Nat → ClassId} {b L : Nat} {xs : Nat → Int32} {Q : State → Prop} {x0 y0 : Nat} {x r : Nat → Nat} (hx : p.tables.exec = Jvm.exec) (hb : c.code = code) (hml : c.maxLocals = 4) (hown : s.vm.findClass RL = some m.cls) (hts : ∀ w ∈ BIG, w.before #[Value.ref b] s = true) (hE : ENV (dC, dI) cy s) (hF : SRF (dC, dI) s) (hT : STR (dC, dI) (fun q : Nat => s.heap.size ≤ q) s s.heap) (hX : va_X b L xs s s.heap) (hbl : b < s.heap.size) (hL : L ≤ 3072) {v : Nat → Int32} {f : Nat → Nat → Int32} {v1 : Nat → Int32} {f1 : Nat → Nat → Int32} {w1 : Int64} {g1 : Nat → Int64} {i : Int32} (hi0 : 0 ≤ i.toInt) (hi6 : i.toInt + 6 ≤ L) {H : Heap} {locs : List Loc} {ls : Array Slot} (hIv : XI v) (hIv1 : YI v1) (hCf1 : YC f1) (hRf1 : progOK (f1 4) (f1 5) (v1 9).toInt.toNat) (heq0 : FREL v f v1 f1) (hP : va_P (dC, dI) vwCl (XW cy x0 x v f ++ YW cy y0 r v1 f1 w1 g1) H) (hD : va_D (fun q : Nat => s.heap.size ≤ q) (XW cy x0 x v f ++ YW cy y0 r v1 f1 w1 g1)) (hS : va_S (fun q : Nat => s.heap.size ≤ q) s.heap H locs) (hl : lv_has ls 4 [(3, .int i), (2, .ref y0), (1, .ref x0), (0, .ref b)]) (fin : ∀ (v : Nat → Int32) (f : Nat → Nat → Int32) (v1 : Nat → Int32) (f1 : Nat → Nat → Int32) (w1 : Int64) (g1 : Nat → Int64) (H : Heap) (locs : List Loc) (ls : Array Slot), XI v → YI v1 → YC f1 → progOK (f1 4) (f1 5) (v1 9).toInt.toNat → FREL v f v1 f1 → va_P (dC, dI) vwCl (XW cy x0 x v f ++ YW cy y0 r v1 f1 w1 g1) H → va_D (fun q : Nat => s.heap.size ≤ q) (XW cy x0 x v f ++ YW cy y0 r v1 f1 w1 g1) → va_S (fun q : Nat => s.heap.size ≤ q) s.heap H locs → lv_has ls 4 [(3, .int i), (2, .ref y0), (1, .ref x0), (0, .ref b)] → W p l e room_1 s m #[Value.ref b] below meth c H locs 81 11738 Q (F0 m 1413 ls [])) : W p l e room_1 s m #[Value.ref b] below meth c H locs 81 11738 Q (F0 m 717 ls []) := by
  have hA : ∀ q : Nat, s.heap.size ≤ q → (fun q : Nat => s.heap.size ≤ q) q := fun _ h => h
  have hbA : ¬ (fun q : Nat => s.heap.size ≤ q) b := Nat.not_le.mpr hbl
  refine lv_aload_n hx hb dL_law_717 rfl (lv_at hl 2 rfl) ?_
  refine lv_aload_n hx hb dL_law_718 rfl (lv_at hl 3 rfl) ?_
  refine lv_iload_n hx hb dL_law_719 rfl (lv_at hl 0 rfl) ?_
  refine lv_iconst (v := 1) hx hb dL_law_720 (by decide) ?_
  refine lv_iadd hx hb dL_law_721 ?_
  refine lv_topi (fun t1 et1 => ?_)
  have rg2 := fb_rng i
  have zt1 : t1.toInt = i.toInt + 1 := by rw [et1]; exact add_i rfl (by decide) (by omega) (by omega)
  refine va_sld hx hb hX hbl hbA hS (vp_in_iff.mpr ⟨by omega, by omega⟩) dL_law_722 ?_
  refine lv_topi (fun a3 ea3 => ?_)
  refine caVi (n := 1) (wr := YW cy y0 r v1 f1 w1 g1) (rest := []) hx hb hml hown hts hE hP hD hS hA (sX_X10_out_1 l dC dI cy x0 x a3 v f hIv) k_951 k_952 k_953 k_101 k_954 hd_yX10_out ⟨Nat.le_of_ble_eq_true rfl, Nat.le_of_ble_eq_true rfl⟩ [0, 1, 2, 3, 4, 5, 6, 7, 8, 9, 10, 11, 12, 13, 14, 15, 16, 17, 18, 19, 20, 21, 22, 23, 24, 25, 26, 27, 28, 29, 30, 31, 32, 33, 34, 35, 36, 37, 38, 39, 40, 41] [42, 43, 44, 45, 46, 47, 48, 49, 50, 51, 52, 53, 54, 55, 56, 57, 58, 59, 60, 61, 62, 63, 64, 65, 66, 67, 68, 69, 70, 71, 72, 73, 74, 75, 76, 77, 78, 79, 80] (lx1 cy x0 y0 x r v f v1 f1 w1 g1) (lx2 cy x0 y0 x r v f v1 f1 w1 g1) (lx3 cy x0 y0 x r v f v1 f1 w1 g1) lx4 lx5 lx6 0 10 rfl rfl rfl hl.1 rfl (Nat.le_of_ble_eq_true rfl) dL_law_723 ⟨Nat.le_of_ble_eq_true rfl, Nat.le_of_ble_eq_true rfl⟩ (fun r4 u H locs hw hP hD hS => ?_)
  obtain ⟨v5, f6⟩ := u
  obtain ⟨hVx, hFx, hIv5, hk0x, hk1x, hk7x, hk8x, hk9x, hk10x, hk31x, hk32x⟩ := hw
  have hP : va_P (dC, dI) vwCl (YW cy y0 r v1 f1 w1 g1 ++ XW cy x0 x v5 f6) H := hP
  have hD : va_D (fun q : Nat => s.heap.size ≤ q) (YW cy y0 r v1 f1 w1 g1 ++ XW cy x0 x v5 f6) := hD
  refine lv_pop hx hb dL_law_726 rfl ?_
  refine lv_aload_n hx hb dL_law_727 rfl (lv_at hl 1 rfl) ?_
  refine lv_aload_n hx hb dL_law_728 rfl (lv_at hl 3 rfl) ?_
  refine lv_iload_n hx hb dL_law_729 rfl (lv_at hl 0 rfl) ?_
  refine lv_iconst (v := 1) hx hb dL_law_730 (by decide) ?_
  refine lv_iadd hx hb dL_law_731 ?_
  refine tI (y := t1) et1.symm ?_
  refine va_sld hx hb hX hbl hbA hS (vp_in_iff.mpr ⟨by omega, by omega⟩) dL_law_732 ?_
  refine tI (y := a3) ea3.symm ?_
  refine caVi (n := 1) (wr := XW cy x0 x v5 f6) (rest := []) hx hb hml hown hts hE hP hD hS hA (sY_X11_out_1 l dC dI cy y0 r a3 v1 f1 w1 g1 hIv1 hCf1 hRf1) k_1857 k_1858 k_1859 k_114 k_1860 hd_yX11_out ⟨Nat.le_of_ble_eq_true rfl, Nat.le_of_ble_eq_true rfl⟩ [0, 1, 2, 3, 4, 5, 6, 7, 8, 9, 10, 11, 12, 13, 14, 15, 16, 17, 18, 19, 20, 21, 22, 23, 24, 25, 26, 27, 28, 29, 30, 31, 32, 33, 34, 35, 36, 37, 38] [39, 40, 41, 42, 43, 44, 45, 46, 47, 48, 49, 50, 51, 52, 53, 54, 55, 56, 57, 58, 59, 60, 61, 62, 63, 64, 65, 66, 67, 68, 69, 70, 71, 72, 73, 74, 75, 76, 77, 78, 79, 80] (ly1 cy x0 y0 x r v5 f6 v1 f1 w1 g1) (ly2 cy x0 y0 x r v5 f6 v1 f1 w1 g1) (ly3 cy x0 y0 x r v5 f6 v1 f1 w1 g1) ly4 ly5 ly6 0 11 rfl rfl rfl hl.1 rfl (Nat.le_of_ble_eq_true rfl) dL_law_733 ⟨Nat.le_of_ble_eq_true rfl, Nat.le_of_ble_eq_true rfl⟩ (fun r7 u H locs hw hP hD hS => ?_)
  obtain ⟨v8, f9, w10, g11⟩ := u
  obtain ⟨hVy, hFy, hIv8, hCf9, hRf9, hk0y, hk1y, hk2y, hk3y, hk4y, hk5y, hk8y, hk9y, hk10y, hk13y, hk14y, hk15y, hk17y, hk18y, hk24y, hk25y, hk35y, hk36y, hk38y, hk39y⟩ := hw
  have hP : va_P (dC, dI) vwCl (XW cy x0 x v5 f6 ++ YW cy y0 r v8 f9 w10 g11) H := hP
  have hD : va_D (fun q : Nat => s.heap.size ≤ q) (XW cy x0 x v5 f6 ++ YW cy y0 r v8 f9 w10 g11) := hD
  refine lv_pop hx hb dL_law_736 rfl ?_
  refine lv_goto (tgt := 1413) hx hb dL_law_737 (by decide) ?_
  exact fin v5 f6 v8 f9 w10 g11 _ _ _ hIv5 hIv8 hCf9 hRf9 (FREL.keep heq0 (KV.use hVx rfl) (KF.use hFx rfl) (KV.use hVy rfl) (KF.use hFy rfl)) hP hD hS hl
set_option maxHeartbeats 4000000 in
set_option maxRecDepth 100000 in
theorem law_18 {p : Program} {l : Launch} {e : Env} {s : State} {m : MethodId} {below : List Frame} {meth : Method} {c : Code} {dC : Nat → ClassId} {dI : Nat → Nat → Nat} {cy : Nat → ClassId} {b L : Nat} {xs : Nat → Int32} {Q : State → Prop} {x0 y0 : Nat} {x r : Nat → Nat} (hx : p.tables.exec = Jvm.exec) (hb : c.code = code) (hml : c.maxLocals = 4) (hown : s.vm.findClass RL = some m.cls) (hts : ∀ w ∈ BIG, w.before #[Value.ref b] s = true) (hE : ENV (dC, dI) cy s) (hF : SRF (dC, dI) s) (hT : STR (dC, dI) (fun q : Nat => s.heap.size ≤ q) s s.heap) (hX : va_X b L xs s s.heap) (hbl : b < s.heap.size) (hL : L ≤ 3072) {v : Nat → Int32} {f : Nat → Nat → Int32} {v1 : Nat → Int32} {f1 : Nat → Nat → Int32} {w1 : Int64} {g1 : Nat → Int64} {i : Int32} (hi0 : 0 ≤ i.toInt) (hi6 : i.toInt + 6 ≤ L) {H : Heap} {locs : List Loc} {ls : Array Slot} (hIv : XI v) (hIv1 : YI v1) (hCf1 : YC f1) (hRf1 : progOK (f1 4) (f1 5) (v1 9).toInt.toNat) (heq0 : FREL v f v1 f1) (hP : va_P (dC, dI) vwCl (XW cy x0 x v f ++ YW cy y0 r v1 f1 w1 g1) H) (hD : va_D (fun q : Nat => s.heap.size ≤ q) (XW cy x0 x v f ++ YW cy y0 r v1 f1 w1 g1)) (hS : va_S (fun q : Nat => s.heap.size ≤ q) s.heap H locs) (hl : lv_has ls 4 [(3, .int i), (2, .ref y0), (1, .ref x0), (0, .ref b)]) (fin : ∀ (v : Nat → Int32) (f : Nat → Nat → Int32) (v1 : Nat → Int32) (f1 : Nat → Nat → Int32) (w1 : Int64) (g1 : Nat → Int64) (H : Heap) (locs : List Loc) (ls : Array Slot), XI v → YI v1 → YC f1 → progOK (f1 4) (f1 5) (v1 9).toInt.toNat → FREL v f v1 f1 → va_P (dC, dI) vwCl (XW cy x0 x v f ++ YW cy y0 r v1 f1 w1 g1) H → va_D (fun q : Nat => s.heap.size ≤ q) (XW cy x0 x v f ++ YW cy y0 r v1 f1 w1 g1) → va_S (fun q : Nat => s.heap.size ≤ q) s.heap H locs → lv_has ls 4 [(3, .int i), (2, .ref y0), (1, .ref x0), (0, .ref b)] → W p l e room_1 s m #[Value.ref b] below meth c H locs 81 11738 Q (F0 m 1413 ls [])) : W p l e room_1 s m #[Value.ref b] below meth c H locs 81 11738 Q (F0 m 740 ls []) := by
  have hA : ∀ q : Nat, s.heap.size ≤ q → (fun q : Nat => s.heap.size ≤ q) q := fun _ h => h
  have hbA : ¬ (fun q : Nat => s.heap.size ≤ q) b := Nat.not_le.mpr hbl
  refine lv_aload_n hx hb dL_law_740 rfl (lv_at hl 2 rfl) ?_
  refine caVi (n := 0) (wr := YW cy y0 r v1 f1 w1 g1) (rest := []) hx hb hml hown hts hE hP hD hS hA (sX_X10_fitted_1 0 l dC dI cy x0 x  v f hIv) k_959 k_960 k_961 k_101 k_962 hd_yX10_fitted ⟨Nat.le_of_ble_eq_true rfl, Nat.le_of_ble_eq_true rfl⟩ [0, 1, 2, 3, 4, 5, 6, 7, 8, 9, 10, 11, 12, 13, 14, 15, 16, 17, 18, 19, 20, 21, 22, 23, 24, 25, 26, 27, 28, 29, 30, 31, 32, 33, 34, 35, 36, 37, 38, 39, 40, 41] [42, 43, 44, 45, 46, 47, 48, 49, 50, 51, 52, 53, 54, 55, 56, 57, 58, 59, 60, 61, 62, 63, 64, 65, 66, 67, 68, 69, 70, 71, 72, 73, 74, 75, 76, 77, 78, 79, 80] (lx1 cy x0 y0 x r v f v1 f1 w1 g1) (lx2 cy x0 y0 x r v f v1 f1 w1 g1) (lx3 cy x0 y0 x r v f v1 f1 w1 g1) lx4 lx5 lx6 0 10 rfl rfl rfl hl.1 rfl (Nat.le_of_ble_eq_true rfl) dL_law_741 ⟨Nat.le_of_ble_eq_true rfl, Nat.le_of_ble_eq_true rfl⟩ (fun r1 u H locs hw hP hD hS => ?_)
  obtain ⟨v2, f3⟩ := u
  obtain ⟨hGx, hVx, hFx, hIv2, hk0x, hk1x, hk7x, hk8x, hk9x, hk10x, hk31x, hk32x⟩ := hw
  have hP : va_P (dC, dI) vwCl (YW cy y0 r v1 f1 w1 g1 ++ XW cy x0 x v2 f3) H := hP
  have hD : va_D (fun q : Nat => s.heap.size ≤ q) (YW cy y0 r v1 f1 w1 g1 ++ XW cy x0 x v2 f3) := hD
  refine lv_pop hx hb dL_law_744 rfl ?_
  refine lv_aload_n hx hb dL_law_745 rfl (lv_at hl 1 rfl) ?_
  refine caVi (n := 0) (wr := XW cy x0 x v2 f3) (rest := []) hx hb hml hown hts hE hP hD hS hA (sY_X11_fitted_1 0 l dC dI cy y0 r  v1 f1 w1 g1 hIv1 hCf1 hRf1) k_1865 k_1866 k_1867 k_114 k_1868 hd_yX11_fitted ⟨Nat.le_of_ble_eq_true rfl, Nat.le_of_ble_eq_true rfl⟩ [0, 1, 2, 3, 4, 5, 6, 7, 8, 9, 10, 11, 12, 13, 14, 15, 16, 17, 18, 19, 20, 21, 22, 23, 24, 25, 26, 27, 28, 29, 30, 31, 32, 33, 34, 35, 36, 37, 38] [39, 40, 41, 42, 43, 44, 45, 46, 47, 48, 49, 50, 51, 52, 53, 54, 55, 56, 57, 58, 59, 60, 61, 62, 63, 64, 65, 66, 67, 68, 69, 70, 71, 72, 73, 74, 75, 76, 77, 78, 79, 80] (ly1 cy x0 y0 x r v2 f3 v1 f1 w1 g1) (ly2 cy x0 y0 x r v2 f3 v1 f1 w1 g1) (ly3 cy x0 y0 x r v2 f3 v1 f1 w1 g1) ly4 ly5 ly6 0 11 rfl rfl rfl hl.1 rfl (Nat.le_of_ble_eq_true rfl) dL_law_746 ⟨Nat.le_of_ble_eq_true rfl, Nat.le_of_ble_eq_true rfl⟩ (fun r4 u H locs hw hP hD hS => ?_)
  obtain ⟨v5, f6, w7, g8⟩ := u
  obtain ⟨hGy, hVy, hFy, hIv5, hCf6, hRf6, hk0y, hk1y, hk2y, hk3y, hk4y, hk5y, hk8y, hk9y, hk10y, hk13y, hk14y, hk15y, hk17y, hk18y, hk24y, hk25y, hk35y, hk36y, hk38y, hk39y⟩ := hw
  have hP : va_P (dC, dI) vwCl (XW cy x0 x v2 f3 ++ YW cy y0 r v5 f6 w7 g8) H := hP
  have hD : va_D (fun q : Nat => s.heap.size ≤ q) (XW cy x0 x v2 f3 ++ YW cy y0 r v5 f6 w7 g8) := hD
  refine lv_pop hx hb dL_law_749 rfl ?_
  refine lv_goto (tgt := 1413) hx hb dL_law_750 (by decide) ?_
  exact fin v2 f3 v5 f6 w7 g8 _ _ _ hIv2 hIv5 hCf6 hRf6 (FREL.keep heq0 (KV.use hVx rfl) (KF.use hFx rfl) (KV.use hVy rfl) (KF.use hFy rfl)) hP hD hS hl
set_option maxHeartbeats 4000000 in
set_option maxRecDepth 100000 in
theorem law_19 {p : Program} {l : Launch} {e : Env} {s : State} {m : MethodId} {below : List Frame} {meth : Method} {c : Code} {dC : Nat → ClassId} {dI : Nat → Nat → Nat} {cy : Nat → ClassId} {b L : Nat} {xs : Nat → Int32} {Q : State → Prop} {x0 y0 : Nat} {x r : Nat → Nat} (hx : p.tables.exec = Jvm.exec) (hb : c.code = code) (hml : c.maxLocals = 4) (hown : s.vm.findClass RL = some m.cls) (hts : ∀ w ∈ BIG, w.before #[Value.ref b] s = true) (hE : ENV (dC, dI) cy s) (hF : SRF (dC, dI) s) (hT : STR (dC, dI) (fun q : Nat => s.heap.size ≤ q) s s.heap) (hX : va_X b L xs s s.heap) (hbl : b < s.heap.size) (hL : L ≤ 3072) {v : Nat → Int32} {f : Nat → Nat → Int32} {v1 : Nat → Int32} {f1 : Nat → Nat → Int32} {w1 : Int64} {g1 : Nat → Int64} {i : Int32} (hi0 : 0 ≤ i.toInt) (hi6 : i.toInt + 6 ≤ L) {H : Heap} {locs : List Loc} {ls : Array Slot} (hIv : XI v) (hIv1 : YI v1) (hCf1 : YC f1) (hRf1 : progOK (f1 4) (f1 5) (v1 9).toInt.toNat) (heq0 : FREL v f v1 f1) (hP : va_P (dC, dI) vwCl (XW cy x0 x v f ++ YW cy y0 r v1 f1 w1 g1) H) (hD : va_D (fun q : Nat => s.heap.size ≤ q) (XW cy x0 x v f ++ YW cy y0 r v1 f1 w1 g1)) (hS : va_S (fun q : Nat => s.heap.size ≤ q) s.heap H locs) (hl : lv_has ls 4 [(3, .int i), (2, .ref y0), (1, .ref x0), (0, .ref b)]) (fin : ∀ (v : Nat → Int32) (f : Nat → Nat → Int32) (v1 : Nat → Int32) (f1 : Nat → Nat → Int32) (w1 : Int64) (g1 : Nat → Int64) (H : Heap) (locs : List Loc) (ls : Array Slot), XI v → YI v1 → YC f1 → progOK (f1 4) (f1 5) (v1 9).toInt.toNat → FREL v f v1 f1 → va_P (dC, dI) vwCl (XW cy x0 x v f ++ YW cy y0 r v1 f1 w1 g1) H → va_D (fun q : Nat => s.heap.size ≤ q) (XW cy x0 x v f ++ YW cy y0 r v1 f1 w1 g1) → va_S (fun q : Nat => s.heap.size ≤ q) s.heap H locs → lv_has ls 4 [(3, .int i), (2, .ref y0), (1, .ref x0), (0, .ref b)] → W p l e room_1 s m #[Value.ref b] below meth c H locs 81 11738 Q (F0 m 1413 ls [])) : W p l e room_1 s m #[Value.ref b] below meth c H locs 81 11738 Q (F0 m 753 ls []) := by
  have hA : ∀ q : Nat, s.heap.size ≤ q → (fun q : Nat => s.heap.size ≤ q) q := fun _ h => h
  have hbA : ¬ (fun q : Nat => s.heap.size ≤ q) b := Nat.not_le.mpr hbl
  refine lv_aload_n hx hb dL_law_753 rfl (lv_at hl 2 rfl) ?_
  refine lv_aload_n hx hb dL_law_754 rfl (lv_at hl 3 rfl) ?_
  refine lv_iload_n hx hb dL_law_755 rfl (lv_at hl 0 rfl) ?_
  refine lv_iconst (v := 1) hx hb dL_law_756 (by decide) ?_
  refine lv_iadd hx hb dL_law_757 ?_
  refine lv_topi (fun t1 et1 => ?_)
  have rg2 := fb_rng i
  have zt1 : t1.toInt = i.toInt + 1 := by rw [et1]; exact add_i rfl (by decide) (by omega) (by omega)
  refine va_sld hx hb hX hbl hbA hS (vp_in_iff.mpr ⟨by omega, by omega⟩) dL_law_758 ?_
  refine lv_topi (fun a3 ea3 => ?_)
  refine caVi (n := 1) (wr := YW cy y0 r v1 f1 w1 g1) (rest := []) hx hb hml hown hts hE hP hD hS hA (sX_X10_dress_1 l dC dI cy x0 x a3 v f hIv) k_967 k_968 k_969 k_101 k_970 hd_yX10_dress ⟨Nat.le_of_ble_eq_true rfl, Nat.le_of_ble_eq_true rfl⟩ [0, 1, 2, 3, 4, 5, 6, 7, 8, 9, 10, 11, 12, 13, 14, 15, 16, 17, 18, 19, 20, 21, 22, 23, 24, 25, 26, 27, 28, 29, 30, 31, 32, 33, 34, 35, 36, 37, 38, 39, 40, 41] [42, 43, 44, 45, 46, 47, 48, 49, 50, 51, 52, 53, 54, 55, 56, 57, 58, 59, 60, 61, 62, 63, 64, 65, 66, 67, 68, 69, 70, 71, 72, 73, 74, 75, 76, 77, 78, 79, 80] (lx1 cy x0 y0 x r v f v1 f1 w1 g1) (lx2 cy x0 y0 x r v f v1 f1 w1 g1) (lx3 cy x0 y0 x r v f v1 f1 w1 g1) lx4 lx5 lx6 0 10 rfl rfl rfl hl.1 rfl (Nat.le_of_ble_eq_true rfl) dL_law_759 ⟨Nat.le_of_ble_eq_true rfl, Nat.le_of_ble_eq_true rfl⟩ (fun r4 u H locs hw hP hD hS => ?_)
  obtain ⟨v5, f6⟩ := u
  obtain ⟨hVx, hFx, hIv5, hk0x, hk1x, hk7x, hk8x, hk9x, hk10x, hk31x, hk32x⟩ := hw
  have hP : va_P (dC, dI) vwCl (YW cy y0 r v1 f1 w1 g1 ++ XW cy x0 x v5 f6) H := hP
  have hD : va_D (fun q : Nat => s.heap.size ≤ q) (YW cy y0 r v1 f1 w1 g1 ++ XW cy x0 x v5 f6) := hD
  refine lv_pop hx hb dL_law_762 rfl ?_
  refine lv_aload_n hx hb dL_law_763 rfl (lv_at hl 1 rfl) ?_
  refine lv_aload_n hx hb dL_law_764 rfl (lv_at hl 3 rfl) ?_
  refine lv_iload_n hx hb dL_law_765 rfl (lv_at hl 0 rfl) ?_
  refine lv_iconst (v := 1) hx hb dL_law_766 (by decide) ?_
  refine lv_iadd hx hb dL_law_767 ?_
  refine tI (y := t1) et1.symm ?_
  refine va_sld hx hb hX hbl hbA hS (vp_in_iff.mpr ⟨by omega, by omega⟩) dL_law_768 ?_
  refine tI (y := a3) ea3.symm ?_
  refine caVi (n := 1) (wr := XW cy x0 x v5 f6) (rest := []) hx hb hml hown hts hE hP hD hS hA (sY_X11_dress_1 l dC dI cy y0 r a3 v1 f1 w1 g1 hIv1 hCf1 hRf1) k_1869 k_1870 k_1871 k_114 k_1872 hd_yX11_dress ⟨Nat.le_of_ble_eq_true rfl, Nat.le_of_ble_eq_true rfl⟩ [0, 1, 2, 3, 4, 5, 6, 7, 8, 9, 10, 11, 12, 13, 14, 15, 16, 17, 18, 19, 20, 21, 22, 23, 24, 25, 26, 27, 28, 29, 30, 31, 32, 33, 34, 35, 36, 37, 38] [39, 40, 41, 42, 43, 44, 45, 46, 47, 48, 49, 50, 51, 52, 53, 54, 55, 56, 57, 58, 59, 60, 61, 62, 63, 64, 65, 66, 67, 68, 69, 70, 71, 72, 73, 74, 75, 76, 77, 78, 79, 80] (ly1 cy x0 y0 x r v5 f6 v1 f1 w1 g1) (ly2 cy x0 y0 x r v5 f6 v1 f1 w1 g1) (ly3 cy x0 y0 x r v5 f6 v1 f1 w1 g1) ly4 ly5 ly6 0 11 rfl rfl rfl hl.1 rfl (Nat.le_of_ble_eq_true rfl) dL_law_769 ⟨Nat.le_of_ble_eq_true rfl, Nat.le_of_ble_eq_true rfl⟩ (fun r7 u H locs hw hP hD hS => ?_)
  obtain ⟨v8, f9, w10, g11⟩ := u
  obtain ⟨hVy, hFy, hIv8, hCf9, hRf9, hk0y, hk1y, hk2y, hk3y, hk4y, hk5y, hk8y, hk9y, hk10y, hk13y, hk14y, hk15y, hk17y, hk18y, hk24y, hk25y, hk35y, hk36y, hk38y, hk39y⟩ := hw
  have hP : va_P (dC, dI) vwCl (XW cy x0 x v5 f6 ++ YW cy y0 r v8 f9 w10 g11) H := hP
  have hD : va_D (fun q : Nat => s.heap.size ≤ q) (XW cy x0 x v5 f6 ++ YW cy y0 r v8 f9 w10 g11) := hD
  refine lv_pop hx hb dL_law_772 rfl ?_
  refine lv_goto (tgt := 1413) hx hb dL_law_773 (by decide) ?_
  exact fin v5 f6 v8 f9 w10 g11 _ _ _ hIv5 hIv8 hCf9 hRf9 (FREL.keep heq0 (KV.use hVx rfl) (KF.use hFx rfl) (KV.use hVy rfl) (KF.use hFy rfl)) hP hD hS hl
set_option maxHeartbeats 4000000 in
set_option maxRecDepth 100000 in
theorem law_20 {p : Program} {l : Launch} {e : Env} {s : State} {m : MethodId} {below : List Frame} {meth : Method} {c : Code} {dC : Nat → ClassId} {dI : Nat → Nat → Nat} {cy : Nat → ClassId} {b L : Nat} {xs : Nat → Int32} {Q : State → Prop} {x0 y0 : Nat} {x r : Nat → Nat} (hx : p.tables.exec = Jvm.exec) (hb : c.code = code) (hml : c.maxLocals = 4) (hown : s.vm.findClass RL = some m.cls) (hts : ∀ w ∈ BIG, w.before #[Value.ref b] s = true) (hE : ENV (dC, dI) cy s) (hF : SRF (dC, dI) s) (hT : STR (dC, dI) (fun q : Nat => s.heap.size ≤ q) s s.heap) (hX : va_X b L xs s s.heap) (hbl : b < s.heap.size) (hL : L ≤ 3072) {v : Nat → Int32} {f : Nat → Nat → Int32} {v1 : Nat → Int32} {f1 : Nat → Nat → Int32} {w1 : Int64} {g1 : Nat → Int64} {i : Int32} (hi0 : 0 ≤ i.toInt) (hi6 : i.toInt + 6 ≤ L) {H : Heap} {locs : List Loc} {ls : Array Slot} (hIv : XI v) (hIv1 : YI v1) (hCf1 : YC f1) (hRf1 : progOK (f1 4) (f1 5) (v1 9).toInt.toNat) (heq0 : FREL v f v1 f1) (hP : va_P (dC, dI) vwCl (XW cy x0 x v f ++ YW cy y0 r v1 f1 w1 g1) H) (hD : va_D (fun q : Nat => s.heap.size ≤ q) (XW cy x0 x v f ++ YW cy y0 r v1 f1 w1 g1)) (hS : va_S (fun q : Nat => s.heap.size ≤ q) s.heap H locs) (hl : lv_has ls 4 [(3, .int i), (2, .ref y0), (1, .ref x0), (0, .ref b)]) (fin : ∀ (v : Nat → Int32) (f : Nat → Nat → Int32) (v1 : Nat → Int32) (f1 : Nat → Nat → Int32) (w1 : Int64) (g1 : Nat → Int64) (H : Heap) (locs : List Loc) (ls : Array Slot), XI v → YI v1 → YC f1 → progOK (f1 4) (f1 5) (v1 9).toInt.toNat → FREL v f v1 f1 → va_P (dC, dI) vwCl (XW cy x0 x v f ++ YW cy y0 r v1 f1 w1 g1) H → va_D (fun q : Nat => s.heap.size ≤ q) (XW cy x0 x v f ++ YW cy y0 r v1 f1 w1 g1) → va_S (fun q : Nat => s.heap.size ≤ q) s.heap H locs → lv_has ls 4 [(3, .int i), (2, .ref y0), (1, .ref x0), (0, .ref b)] → W p l e room_1 s m #[Value.ref b] below meth c H locs 81 11738 Q (F0 m 1413 ls [])) : W p l e room_1 s m #[Value.ref b] below meth c H locs 81 11738 Q (F0 m 776 ls []) := by
  have hA : ∀ q : Nat, s.heap.size ≤ q → (fun q : Nat => s.heap.size ≤ q) q := fun _ h => h
  have hbA : ¬ (fun q : Nat => s.heap.size ≤ q) b := Nat.not_le.mpr hbl
  refine lv_aload_n hx hb dL_law_776 rfl (lv_at hl 2 rfl) ?_
  refine lv_aload_n hx hb dL_law_777 rfl (lv_at hl 3 rfl) ?_
  refine lv_iload_n hx hb dL_law_778 rfl (lv_at hl 0 rfl) ?_
  refine lv_iconst (v := 1) hx hb dL_law_779 (by decide) ?_
  refine lv_iadd hx hb dL_law_780 ?_
  refine lv_topi (fun t1 et1 => ?_)
  have rg2 := fb_rng i
  have zt1 : t1.toInt = i.toInt + 1 := by rw [et1]; exact add_i rfl (by decide) (by omega) (by omega)
  refine va_sld hx hb hX hbl hbA hS (vp_in_iff.mpr ⟨by omega, by omega⟩) dL_law_781 ?_
  refine lv_topi (fun a3 ea3 => ?_)
  refine lv_aload_n hx hb dL_law_782 rfl (lv_at hl 3 rfl) ?_
  refine lv_iload_n hx hb dL_law_783 rfl (lv_at hl 0 rfl) ?_
  refine lv_iconst (v := 2) hx hb dL_law_784 (by decide) ?_
  refine lv_iadd hx hb dL_law_785 ?_
  refine lv_topi (fun t4 et4 => ?_)
  have zt4 : t4.toInt = i.toInt + 2 := by rw [et4]; exact add_i rfl (by decide) (by omega) (by omega)
  refine va_sld hx hb hX hbl hbA hS (vp_in_iff.mpr ⟨by omega, by omega⟩) dL_law_786 ?_
  refine lv_topi (fun a5 ea5 => ?_)
  refine lv_aload_n hx hb dL_law_787 rfl (lv_at hl 3 rfl) ?_
  refine lv_iload_n hx hb dL_law_788 rfl (lv_at hl 0 rfl) ?_
  refine lv_iconst (v := 3) hx hb dL_law_789 (by decide) ?_
  refine lv_iadd hx hb dL_law_790 ?_
  refine lv_topi (fun t6 et6 => ?_)
  have zt6 : t6.toInt = i.toInt + 3 := by rw [et6]; exact add_i rfl (by decide) (by omega) (by omega)
  refine va_sld hx hb hX hbl hbA hS (vp_in_iff.mpr ⟨by omega, by omega⟩) dL_law_791 ?_
  refine lv_topi (fun a7 ea7 => ?_)
  refine caVi (n := 3) (wr := YW cy y0 r v1 f1 w1 g1) (rest := []) hx hb hml hown hts hE hP hD hS hA (sX_X10_sewing_1 l dC dI cy x0 x a3 a5 a7 v f hIv) k_999 k_1000 k_1001 k_101 k_1002 hd_yX10_sewing ⟨Nat.le_of_ble_eq_true rfl, Nat.le_of_ble_eq_true rfl⟩ [0, 1, 2, 3, 4, 5, 6, 7, 8, 9, 10, 11, 12, 13, 14, 15, 16, 17, 18, 19, 20, 21, 22, 23, 24, 25, 26, 27, 28, 29, 30, 31, 32, 33, 34, 35, 36, 37, 38, 39, 40, 41] [42, 43, 44, 45, 46, 47, 48, 49, 50, 51, 52, 53, 54, 55, 56, 57, 58, 59, 60, 61, 62, 63, 64, 65, 66, 67, 68, 69, 70, 71, 72, 73, 74, 75, 76, 77, 78, 79, 80] (lx1 cy x0 y0 x r v f v1 f1 w1 g1) (lx2 cy x0 y0 x r v f v1 f1 w1 g1) (lx3 cy x0 y0 x r v f v1 f1 w1 g1) lx4 lx5 lx6 0 10 rfl rfl rfl hl.1 rfl (Nat.le_of_ble_eq_true rfl) dL_law_792 ⟨Nat.le_of_ble_eq_true rfl, Nat.le_of_ble_eq_true rfl⟩ (fun r8 u H locs hw hP hD hS => ?_)
  obtain ⟨v9, f10⟩ := u
  obtain ⟨hVx, hFx, hIv9, hk0x, hk1x, hk7x, hk8x, hk9x, hk10x, hk31x, hk32x⟩ := hw
  have hP : va_P (dC, dI) vwCl (YW cy y0 r v1 f1 w1 g1 ++ XW cy x0 x v9 f10) H := hP
  have hD : va_D (fun q : Nat => s.heap.size ≤ q) (YW cy y0 r v1 f1 w1 g1 ++ XW cy x0 x v9 f10) := hD
  refine lv_pop hx hb dL_law_795 rfl ?_
  refine lv_aload_n hx hb dL_law_796 rfl (lv_at hl 1 rfl) ?_
  refine lv_aload_n hx hb dL_law_797 rfl (lv_at hl 3 rfl) ?_
  refine lv_iload_n hx hb dL_law_798 rfl (lv_at hl 0 rfl) ?_
  refine lv_iconst (v := 1) hx hb dL_law_799 (by decide) ?_
  refine lv_iadd hx hb dL_law_800 ?_
  refine tI (y := t1) et1.symm ?_
  refine va_sld hx hb hX hbl hbA hS (vp_in_iff.mpr ⟨by omega, by omega⟩) dL_law_801 ?_
  refine tI (y := a3) ea3.symm ?_
  refine lv_aload_n hx hb dL_law_802 rfl (lv_at hl 3 rfl) ?_
  refine lv_iload_n hx hb dL_law_803 rfl (lv_at hl 0 rfl) ?_
  refine lv_iconst (v := 2) hx hb dL_law_804 (by decide) ?_
  refine lv_iadd hx hb dL_law_805 ?_
  refine tI (y := t4) et4.symm ?_
  refine va_sld hx hb hX hbl hbA hS (vp_in_iff.mpr ⟨by omega, by omega⟩) dL_law_806 ?_
  refine tI (y := a5) ea5.symm ?_
  refine lv_aload_n hx hb dL_law_807 rfl (lv_at hl 3 rfl) ?_
  refine lv_iload_n hx hb dL_law_808 rfl (lv_at hl 0 rfl) ?_
  refine lv_iconst (v := 3) hx hb dL_law_809 (by decide) ?_
  refine lv_iadd hx hb dL_law_810 ?_
  refine tI (y := t6) et6.symm ?_
  refine va_sld hx hb hX hbl hbA hS (vp_in_iff.mpr ⟨by omega, by omega⟩) dL_law_811 ?_
  refine tI (y := a7) ea7.symm ?_
  refine caVi (n := 3) (wr := XW cy x0 x v9 f10) (rest := []) hx hb hml hown hts hE hP hD hS hA (sY_X11_sewing_1 l dC dI cy y0 r a3 a5 a7 v1 f1 w1 g1 hIv1 hCf1 hRf1) k_1888 k_1889 k_1890 k_114 k_1891 hd_yX11_sewing ⟨Nat.le_of_ble_eq_true rfl, Nat.le_of_ble_eq_true rfl⟩ [0, 1, 2, 3, 4, 5, 6, 7, 8, 9, 10, 11, 12, 13, 14, 15, 16, 17, 18, 19, 20, 21, 22, 23, 24, 25, 26, 27, 28, 29, 30, 31, 32, 33, 34, 35, 36, 37, 38] [39, 40, 41, 42, 43, 44, 45, 46, 47, 48, 49, 50, 51, 52, 53, 54, 55, 56, 57, 58, 59, 60, 61, 62, 63, 64, 65, 66, 67, 68, 69, 70, 71, 72, 73, 74, 75, 76, 77, 78, 79, 80] (ly1 cy x0 y0 x r v9 f10 v1 f1 w1 g1) (ly2 cy x0 y0 x r v9 f10 v1 f1 w1 g1) (ly3 cy x0 y0 x r v9 f10 v1 f1 w1 g1) ly4 ly5 ly6 0 11 rfl rfl rfl hl.1 rfl (Nat.le_of_ble_eq_true rfl) dL_law_812 ⟨Nat.le_of_ble_eq_true rfl, Nat.le_of_ble_eq_true rfl⟩ (fun r11 u H locs hw hP hD hS => ?_)
  obtain ⟨v12, f13, w14, g15⟩ := u
  obtain ⟨hVy, hFy, hIv12, hCf13, hRf13, hk0y, hk1y, hk2y, hk3y, hk4y, hk5y, hk8y, hk9y, hk10y, hk13y, hk14y, hk15y, hk17y, hk18y, hk24y, hk25y, hk35y, hk36y, hk38y, hk39y⟩ := hw
  have hP : va_P (dC, dI) vwCl (XW cy x0 x v9 f10 ++ YW cy y0 r v12 f13 w14 g15) H := hP
  have hD : va_D (fun q : Nat => s.heap.size ≤ q) (XW cy x0 x v9 f10 ++ YW cy y0 r v12 f13 w14 g15) := hD
  refine lv_pop hx hb dL_law_815 rfl ?_
  refine lv_goto (tgt := 1413) hx hb dL_law_816 (by decide) ?_
  exact fin v9 f10 v12 f13 w14 g15 _ _ _ hIv9 hIv12 hCf13 hRf13 (FREL.keep heq0 (KV.use hVx rfl) (KF.use hFx rfl) (KV.use hVy rfl) (KF.use hFy rfl)) hP hD hS hl
set_option maxHeartbeats 4000000 in
set_option maxRecDepth 100000 in
theorem law_21 {p : Program} {l : Launch} {e : Env} {s : State} {m : MethodId} {below : List Frame} {meth : Method} {c : Code} {dC : Nat → ClassId} {dI : Nat → Nat → Nat} {cy : Nat → ClassId} {b L : Nat} {xs : Nat → Int32} {Q : State → Prop} {x0 y0 : Nat} {x r : Nat → Nat} (hx : p.tables.exec = Jvm.exec) (hb : c.code = code) (hml : c.maxLocals = 4) (hown : s.vm.findClass RL = some m.cls) (hts : ∀ w ∈ BIG, w.before #[Value.ref b] s = true) (hE : ENV (dC, dI) cy s) (hF : SRF (dC, dI) s) (hT : STR (dC, dI) (fun q : Nat => s.heap.size ≤ q) s s.heap) (hX : va_X b L xs s s.heap) (hbl : b < s.heap.size) (hL : L ≤ 3072) {v : Nat → Int32} {f : Nat → Nat → Int32} {v1 : Nat → Int32} {f1 : Nat → Nat → Int32} {w1 : Int64} {g1 : Nat → Int64} {i : Int32} (hi0 : 0 ≤ i.toInt) (hi6 : i.toInt + 6 ≤ L) {H : Heap} {locs : List Loc} {ls : Array Slot} (hIv : XI v) (hIv1 : YI v1) (hCf1 : YC f1) (hRf1 : progOK (f1 4) (f1 5) (v1 9).toInt.toNat) (heq0 : FREL v f v1 f1) (hP : va_P (dC, dI) vwCl (XW cy x0 x v f ++ YW cy y0 r v1 f1 w1 g1) H) (hD : va_D (fun q : Nat => s.heap.size ≤ q) (XW cy x0 x v f ++ YW cy y0 r v1 f1 w1 g1)) (hS : va_S (fun q : Nat => s.heap.size ≤ q) s.heap H locs) (hl : lv_has ls 4 [(3, .int i), (2, .ref y0), (1, .ref x0), (0, .ref b)]) (fin : ∀ (v : Nat → Int32) (f : Nat → Nat → Int32) (v1 : Nat → Int32) (f1 : Nat → Nat → Int32) (w1 : Int64) (g1 : Nat → Int64) (H : Heap) (locs : List Loc) (ls : Array Slot), XI v → YI v1 → YC f1 → progOK (f1 4) (f1 5) (v1 9).toInt.toNat → FREL v f v1 f1 → va_P (dC, dI) vwCl (XW cy x0 x v f ++ YW cy y0 r v1 f1 w1 g1) H → va_D (fun q : Nat => s.heap.size ≤ q) (XW cy x0 x v f ++ YW cy y0 r v1 f1 w1 g1) → va_S (fun q : Nat => s.heap.size ≤ q) s.heap H locs → lv_has ls 4 [(3, .int i), (2, .ref y0), (1, .ref x0), (0, .ref b)] → W p l e room_1 s m #[Value.ref b] below meth c H locs 81 11738 Q (F0 m 1413 ls [])) : W p l e room_1 s m #[Value.ref b] below meth c H locs 81 11738 Q (F0 m 819 ls []) := by
  have hA : ∀ q : Nat, s.heap.size ≤ q → (fun q : Nat => s.heap.size ≤ q) q := fun _ h => h
  have hbA : ¬ (fun q : Nat => s.heap.size ≤ q) b := Nat.not_le.mpr hbl
  refine lv_aload_n hx hb dL_law_819 rfl (lv_at hl 2 rfl) ?_
  refine lv_aload_n hx hb dL_law_820 rfl (lv_at hl 3 rfl) ?_
  refine lv_iload_n hx hb dL_law_821 rfl (lv_at hl 0 rfl) ?_
  refine lv_iconst (v := 1) hx hb dL_law_822 (by decide) ?_
  refine lv_iadd hx hb dL_law_823 ?_
  refine lv_topi (fun t1 et1 => ?_)
  have rg2 := fb_rng i
  have zt1 : t1.toInt = i.toInt + 1 := by rw [et1]; exact add_i rfl (by decide) (by omega) (by omega)
  refine va_sld hx hb hX hbl hbA hS (vp_in_iff.mpr ⟨by omega, by omega⟩) dL_law_824 ?_
  refine lv_topi (fun a3 ea3 => ?_)
  refine caVi (n := 1) (wr := YW cy y0 r v1 f1 w1 g1) (rest := []) hx hb hml hown hts hE hP hD hS hA (sX_X10_rota_1 0 l dC dI cy x0 x a3 v f hIv) k_1020 k_1021 k_1022 k_101 k_1023 hd_yX10_rota ⟨Nat.le_of_ble_eq_true rfl, Nat.le_of_ble_eq_true rfl⟩ [0, 1, 2, 3, 4, 5, 6, 7, 8, 9, 10, 11, 12, 13, 14, 15, 16, 17, 18, 19, 20, 21, 22, 23, 24, 25, 26, 27, 28, 29, 30, 31, 32, 33, 34, 35, 36, 37, 38, 39, 40, 41] [42, 43, 44, 45, 46, 47, 48, 49, 50, 51, 52, 53, 54, 55, 56, 57, 58, 59, 60, 61, 62, 63, 64, 65, 66, 67, 68, 69, 70, 71, 72, 73, 74, 75, 76, 77, 78, 79, 80] (lx1 cy x0 y0 x r v f v1 f1 w1 g1) (lx2 cy x0 y0 x r v f v1 f1 w1 g1) (lx3 cy x0 y0 x r v f v1 f1 w1 g1) lx4 lx5 lx6 0 10 rfl rfl rfl hl.1 rfl (Nat.le_of_ble_eq_true rfl) dL_law_825 ⟨Nat.le_of_ble_eq_true rfl, Nat.le_of_ble_eq_true rfl⟩ (fun r4 u H locs hw hP hD hS => ?_)
  obtain ⟨v5, f6⟩ := u
  obtain ⟨hGx, hVx, hFx, hIv5, hk0x, hk1x, hk7x, hk8x, hk9x, hk10x, hk31x, hk32x⟩ := hw
  have hP : va_P (dC, dI) vwCl (YW cy y0 r v1 f1 w1 g1 ++ XW cy x0 x v5 f6) H := hP
  have hD : va_D (fun q : Nat => s.heap.size ≤ q) (YW cy y0 r v1 f1 w1 g1 ++ XW cy x0 x v5 f6) := hD
  refine lv_aload_n hx hb dL_law_828 rfl (lv_at hl 1 rfl) ?_
  refine lv_aload_n hx hb dL_law_829 rfl (lv_at hl 3 rfl) ?_
  refine lv_iload_n hx hb dL_law_830 rfl (lv_at hl 0 rfl) ?_
  refine lv_iconst (v := 1) hx hb dL_law_831 (by decide) ?_
  refine lv_iadd hx hb dL_law_832 ?_
  refine tI (y := t1) et1.symm ?_
  refine va_sld hx hb hX hbl hbA hS (vp_in_iff.mpr ⟨by omega, by omega⟩) dL_law_833 ?_
  refine tI (y := a3) ea3.symm ?_
  refine caVi (n := 1) (wr := XW cy x0 x v5 f6) (rest := [.int r4]) hx hb hml hown hts hE hP hD hS hA (sY_X11_rota_1 0 l dC dI cy y0 r a3 v1 f1 w1 g1 hIv1 hCf1 hRf1) k_1896 k_1897 k_1898 k_114 k_1899 hd_yX11_rota ⟨Nat.le_of_ble_eq_true rfl, Nat.le_of_ble_eq_true rfl⟩ [0, 1, 2, 3, 4, 5, 6, 7, 8, 9, 10, 11, 12, 13, 14, 15, 16, 17, 18, 19, 20, 21, 22, 23, 24, 25, 26, 27, 28, 29, 30, 31, 32, 33, 34, 35, 36, 37, 38] [39, 40, 41, 42, 43, 44, 45, 46, 47, 48, 49, 50, 51, 52, 53, 54, 55, 56, 57, 58, 59, 60, 61, 62, 63, 64, 65, 66, 67, 68, 69, 70, 71, 72, 73, 74, 75, 76, 77, 78, 79, 80] (ly1 cy x0 y0 x r v5 f6 v1 f1 w1 g1) (ly2 cy x0 y0 x r v5 f6 v1 f1 w1 g1) (ly3 cy x0 y0 x r v5 f6 v1 f1 w1 g1) ly4 ly5 ly6 0 11 rfl rfl rfl hl.1 rfl (Nat.le_of_ble_eq_true rfl) dL_law_834 ⟨Nat.le_of_ble_eq_true rfl, Nat.le_of_ble_eq_true rfl⟩ (fun r7 u H locs hw hP hD hS => ?_)
  obtain ⟨v8, f9, w10, g11⟩ := u
  obtain ⟨hGy, hVy, hFy, hIv8, hCf9, hRf9, hk0y, hk1y, hk2y, hk3y, hk4y, hk5y, hk8y, hk9y, hk10y, hk13y, hk14y, hk15y, hk17y, hk18y, hk24y, hk25y, hk35y, hk36y, hk38y, hk39y⟩ := hw
  have hP : va_P (dC, dI) vwCl (XW cy x0 x v5 f6 ++ YW cy y0 r v8 f9 w10 g11) H := hP
  have hD : va_D (fun q : Nat => s.heap.size ≤ q) (XW cy x0 x v5 f6 ++ YW cy y0 r v8 f9 w10 g11) := hD
  have heq : r4 = r7 := (FREL.rota heq0 hGx hGy)
  refine lv_icmp_eq (tgt := 1413) hx hb dL_law_837 (by decide) (fun _ => ?_) (fun c0 => absurd heq c0)
  exact fin v5 f6 v8 f9 w10 g11 _ _ _ hIv5 hIv8 hCf9 hRf9 (FREL.keep heq0 (KV.use hVx rfl) (KF.use hFx rfl) (KV.use hVy rfl) (KF.use hFy rfl)) hP hD hS hl
set_option maxHeartbeats 4000000 in
set_option maxRecDepth 100000 in
theorem law_22 {p : Program} {l : Launch} {e : Env} {s : State} {m : MethodId} {below : List Frame} {meth : Method} {c : Code} {dC : Nat → ClassId} {dI : Nat → Nat → Nat} {cy : Nat → ClassId} {b L : Nat} {xs : Nat → Int32} {Q : State → Prop} {x0 y0 : Nat} {x r : Nat → Nat} (hx : p.tables.exec = Jvm.exec) (hb : c.code = code) (hml : c.maxLocals = 4) (hown : s.vm.findClass RL = some m.cls) (hts : ∀ w ∈ BIG, w.before #[Value.ref b] s = true) (hE : ENV (dC, dI) cy s) (hF : SRF (dC, dI) s) (hT : STR (dC, dI) (fun q : Nat => s.heap.size ≤ q) s s.heap) (hX : va_X b L xs s s.heap) (hbl : b < s.heap.size) (hL : L ≤ 3072) {v : Nat → Int32} {f : Nat → Nat → Int32} {v1 : Nat → Int32} {f1 : Nat → Nat → Int32} {w1 : Int64} {g1 : Nat → Int64} {i : Int32} (hi0 : 0 ≤ i.toInt) (hi6 : i.toInt + 6 ≤ L) {H : Heap} {locs : List Loc} {ls : Array Slot} (hIv : XI v) (hIv1 : YI v1) (hCf1 : YC f1) (hRf1 : progOK (f1 4) (f1 5) (v1 9).toInt.toNat) (heq0 : FREL v f v1 f1) (hP : va_P (dC, dI) vwCl (XW cy x0 x v f ++ YW cy y0 r v1 f1 w1 g1) H) (hD : va_D (fun q : Nat => s.heap.size ≤ q) (XW cy x0 x v f ++ YW cy y0 r v1 f1 w1 g1)) (hS : va_S (fun q : Nat => s.heap.size ≤ q) s.heap H locs) (hl : lv_has ls 4 [(3, .int i), (2, .ref y0), (1, .ref x0), (0, .ref b)]) (fin : ∀ (v : Nat → Int32) (f : Nat → Nat → Int32) (v1 : Nat → Int32) (f1 : Nat → Nat → Int32) (w1 : Int64) (g1 : Nat → Int64) (H : Heap) (locs : List Loc) (ls : Array Slot), XI v → YI v1 → YC f1 → progOK (f1 4) (f1 5) (v1 9).toInt.toNat → FREL v f v1 f1 → va_P (dC, dI) vwCl (XW cy x0 x v f ++ YW cy y0 r v1 f1 w1 g1) H → va_D (fun q : Nat => s.heap.size ≤ q) (XW cy x0 x v f ++ YW cy y0 r v1 f1 w1 g1) → va_S (fun q : Nat => s.heap.size ≤ q) s.heap H locs → lv_has ls 4 [(3, .int i), (2, .ref y0), (1, .ref x0), (0, .ref b)] → W p l e room_1 s m #[Value.ref b] below meth c H locs 81 11738 Q (F0 m 1413 ls [])) : W p l e room_1 s m #[Value.ref b] below meth c H locs 81 11738 Q (F0 m 842 ls []) := by
  have hA : ∀ q : Nat, s.heap.size ≤ q → (fun q : Nat => s.heap.size ≤ q) q := fun _ h => h
  have hbA : ¬ (fun q : Nat => s.heap.size ≤ q) b := Nat.not_le.mpr hbl
  refine lv_aload_n hx hb dL_law_842 rfl (lv_at hl 2 rfl) ?_
  refine lv_aload_n hx hb dL_law_843 rfl (lv_at hl 3 rfl) ?_
  refine lv_iload_n hx hb dL_law_844 rfl (lv_at hl 0 rfl) ?_
  refine lv_iconst (v := 1) hx hb dL_law_845 (by decide) ?_
  refine lv_iadd hx hb dL_law_846 ?_
  refine lv_topi (fun t1 et1 => ?_)
  have rg2 := fb_rng i
  have zt1 : t1.toInt = i.toInt + 1 := by rw [et1]; exact add_i rfl (by decide) (by omega) (by omega)
  refine va_sld hx hb hX hbl hbA hS (vp_in_iff.mpr ⟨by omega, by omega⟩) dL_law_847 ?_
  refine lv_topi (fun a3 ea3 => ?_)
  refine caVi (n := 1) (wr := YW cy y0 r v1 f1 w1 g1) (rest := []) hx hb hml hown hts hE hP hD hS hA (sX_X10_change_1 l dC dI cy x0 x a3 v f hIv) k_1033 k_1034 k_1035 k_101 k_1036 hd_yX10_change ⟨Nat.le_of_ble_eq_true rfl, Nat.le_of_ble_eq_true rfl⟩ [0, 1, 2, 3, 4, 5, 6, 7, 8, 9, 10, 11, 12, 13, 14, 15, 16, 17, 18, 19, 20, 21, 22, 23, 24, 25, 26, 27, 28, 29, 30, 31, 32, 33, 34, 35, 36, 37, 38, 39, 40, 41] [42, 43, 44, 45, 46, 47, 48, 49, 50, 51, 52, 53, 54, 55, 56, 57, 58, 59, 60, 61, 62, 63, 64, 65, 66, 67, 68, 69, 70, 71, 72, 73, 74, 75, 76, 77, 78, 79, 80] (lx1 cy x0 y0 x r v f v1 f1 w1 g1) (lx2 cy x0 y0 x r v f v1 f1 w1 g1) (lx3 cy x0 y0 x r v f v1 f1 w1 g1) lx4 lx5 lx6 0 10 rfl rfl rfl hl.1 rfl (Nat.le_of_ble_eq_true rfl) dL_law_848 ⟨Nat.le_of_ble_eq_true rfl, Nat.le_of_ble_eq_true rfl⟩ (fun r4 u H locs hw hP hD hS => ?_)
  obtain ⟨v5, f6⟩ := u
  obtain ⟨hVx, hFx, hIv5, hk0x, hk1x, hk7x, hk8x, hk9x, hk10x, hk31x, hk32x⟩ := hw
  have hP : va_P (dC, dI) vwCl (YW cy y0 r v1 f1 w1 g1 ++ XW cy x0 x v5 f6) H := hP
  have hD : va_D (fun q : Nat => s.heap.size ≤ q) (YW cy y0 r v1 f1 w1 g1 ++ XW cy x0 x v5 f6) := hD
  refine lv_pop hx hb dL_law_851 rfl ?_
  refine lv_aload_n hx hb dL_law_852 rfl (lv_at hl 1 rfl) ?_
  refine lv_aload_n hx hb dL_law_853 rfl (lv_at hl 3 rfl) ?_
  refine lv_iload_n hx hb dL_law_854 rfl (lv_at hl 0 rfl) ?_
  refine lv_iconst (v := 1) hx hb dL_law_855 (by decide) ?_
  refine lv_iadd hx hb dL_law_856 ?_
  refine tI (y := t1) et1.symm ?_
  refine va_sld hx hb hX hbl hbA hS (vp_in_iff.mpr ⟨by omega, by omega⟩) dL_law_857 ?_
  refine tI (y := a3) ea3.symm ?_
  refine caVi (n := 1) (wr := XW cy x0 x v5 f6) (rest := []) hx hb hml hown hts hE hP hD hS hA (sY_X11_change_1 l dC dI cy y0 r a3 v1 f1 w1 g1 hIv1 hCf1 hRf1) k_1903 k_1904 k_1905 k_114 k_1906 hd_yX11_change ⟨Nat.le_of_ble_eq_true rfl, Nat.le_of_ble_eq_true rfl⟩ [0, 1, 2, 3, 4, 5, 6, 7, 8, 9, 10, 11, 12, 13, 14, 15, 16, 17, 18, 19, 20, 21, 22, 23, 24, 25, 26, 27, 28, 29, 30, 31, 32, 33, 34, 35, 36, 37, 38] [39, 40, 41, 42, 43, 44, 45, 46, 47, 48, 49, 50, 51, 52, 53, 54, 55, 56, 57, 58, 59, 60, 61, 62, 63, 64, 65, 66, 67, 68, 69, 70, 71, 72, 73, 74, 75, 76, 77, 78, 79, 80] (ly1 cy x0 y0 x r v5 f6 v1 f1 w1 g1) (ly2 cy x0 y0 x r v5 f6 v1 f1 w1 g1) (ly3 cy x0 y0 x r v5 f6 v1 f1 w1 g1) ly4 ly5 ly6 0 11 rfl rfl rfl hl.1 rfl (Nat.le_of_ble_eq_true rfl) dL_law_858 ⟨Nat.le_of_ble_eq_true rfl, Nat.le_of_ble_eq_true rfl⟩ (fun r7 u H locs hw hP hD hS => ?_)
  obtain ⟨v8, f9, w10, g11⟩ := u
  obtain ⟨hVy, hFy, hIv8, hCf9, hRf9, hk0y, hk1y, hk2y, hk3y, hk4y, hk5y, hk8y, hk9y, hk10y, hk13y, hk14y, hk15y, hk17y, hk18y, hk24y, hk25y, hk35y, hk36y, hk38y, hk39y⟩ := hw
  have hP : va_P (dC, dI) vwCl (XW cy x0 x v5 f6 ++ YW cy y0 r v8 f9 w10 g11) H := hP
  have hD : va_D (fun q : Nat => s.heap.size ≤ q) (XW cy x0 x v5 f6 ++ YW cy y0 r v8 f9 w10 g11) := hD
  refine lv_pop hx hb dL_law_861 rfl ?_
  refine lv_goto (tgt := 1413) hx hb dL_law_862 (by decide) ?_
  exact fin v5 f6 v8 f9 w10 g11 _ _ _ hIv5 hIv8 hCf9 hRf9 (FREL.keep heq0 (KV.use hVx rfl) (KF.use hFx rfl) (KV.use hVy rfl) (KF.use hFy rfl)) hP hD hS hl
set_option maxHeartbeats 4000000 in
set_option maxRecDepth 100000 in
theorem law_23 {p : Program} {l : Launch} {e : Env} {s : State} {m : MethodId} {below : List Frame} {meth : Method} {c : Code} {dC : Nat → ClassId} {dI : Nat → Nat → Nat} {cy : Nat → ClassId} {b L : Nat} {xs : Nat → Int32} {Q : State → Prop} {x0 y0 : Nat} {x r : Nat → Nat} (hx : p.tables.exec = Jvm.exec) (hb : c.code = code) (hml : c.maxLocals = 4) (hown : s.vm.findClass RL = some m.cls) (hts : ∀ w ∈ BIG, w.before #[Value.ref b] s = true) (hE : ENV (dC, dI) cy s) (hF : SRF (dC, dI) s) (hT : STR (dC, dI) (fun q : Nat => s.heap.size ≤ q) s s.heap) (hX : va_X b L xs s s.heap) (hbl : b < s.heap.size) (hL : L ≤ 3072) {v : Nat → Int32} {f : Nat → Nat → Int32} {v1 : Nat → Int32} {f1 : Nat → Nat → Int32} {w1 : Int64} {g1 : Nat → Int64} {i : Int32} (hi0 : 0 ≤ i.toInt) (hi6 : i.toInt + 6 ≤ L) {H : Heap} {locs : List Loc} {ls : Array Slot} (hIv : XI v) (hIv1 : YI v1) (hCf1 : YC f1) (hRf1 : progOK (f1 4) (f1 5) (v1 9).toInt.toNat) (heq0 : FREL v f v1 f1) (hP : va_P (dC, dI) vwCl (XW cy x0 x v f ++ YW cy y0 r v1 f1 w1 g1) H) (hD : va_D (fun q : Nat => s.heap.size ≤ q) (XW cy x0 x v f ++ YW cy y0 r v1 f1 w1 g1)) (hS : va_S (fun q : Nat => s.heap.size ≤ q) s.heap H locs) (hl : lv_has ls 4 [(3, .int i), (2, .ref y0), (1, .ref x0), (0, .ref b)]) (fin : ∀ (v : Nat → Int32) (f : Nat → Nat → Int32) (v1 : Nat → Int32) (f1 : Nat → Nat → Int32) (w1 : Int64) (g1 : Nat → Int64) (H : Heap) (locs : List Loc) (ls : Array Slot), XI v → YI v1 → YC f1 → progOK (f1 4) (f1 5) (v1 9).toInt.toNat → FREL v f v1 f1 → va_P (dC, dI) vwCl (XW cy x0 x v f ++ YW cy y0 r v1 f1 w1 g1) H → va_D (fun q : Nat => s.heap.size ≤ q) (XW cy x0 x v f ++ YW cy y0 r v1 f1 w1 g1) → va_S (fun q : Nat => s.heap.size ≤ q) s.heap H locs → lv_has ls 4 [(3, .int i), (2, .ref y0), (1, .ref x0), (0, .ref b)] → W p l e room_1 s m #[Value.ref b] below meth c H locs 81 11738 Q (F0 m 1413 ls [])) : W p l e room_1 s m #[Value.ref b] below meth c H locs 81 11738 Q (F0 m 865 ls []) := by
  have hA : ∀ q : Nat, s.heap.size ≤ q → (fun q : Nat => s.heap.size ≤ q) q := fun _ h => h
  have hbA : ¬ (fun q : Nat => s.heap.size ≤ q) b := Nat.not_le.mpr hbl
  refine lv_aload_n hx hb dL_law_865 rfl (lv_at hl 2 rfl) ?_
  refine lv_aload_n hx hb dL_law_866 rfl (lv_at hl 3 rfl) ?_
  refine lv_iload_n hx hb dL_law_867 rfl (lv_at hl 0 rfl) ?_
  refine lv_iconst (v := 1) hx hb dL_law_868 (by decide) ?_
  refine lv_iadd hx hb dL_law_869 ?_
  refine lv_topi (fun t1 et1 => ?_)
  have rg2 := fb_rng i
  have zt1 : t1.toInt = i.toInt + 1 := by rw [et1]; exact add_i rfl (by decide) (by omega) (by omega)
  refine va_sld hx hb hX hbl hbA hS (vp_in_iff.mpr ⟨by omega, by omega⟩) dL_law_870 ?_
  refine lv_topi (fun a3 ea3 => ?_)
  refine lv_aload_n hx hb dL_law_871 rfl (lv_at hl 3 rfl) ?_
  refine lv_iload_n hx hb dL_law_872 rfl (lv_at hl 0 rfl) ?_
  refine lv_iconst (v := 2) hx hb dL_law_873 (by decide) ?_
  refine lv_iadd hx hb dL_law_874 ?_
  refine lv_topi (fun t4 et4 => ?_)
  have zt4 : t4.toInt = i.toInt + 2 := by rw [et4]; exact add_i rfl (by decide) (by omega) (by omega)
  refine va_sld hx hb hX hbl hbA hS (vp_in_iff.mpr ⟨by omega, by omega⟩) dL_law_875 ?_
  refine lv_topi (fun a5 ea5 => ?_)
  refine caVi (n := 2) (wr := YW cy y0 r v1 f1 w1 g1) (rest := []) hx hb hml hown hts hE hP hD hS hA (sX_X10_front_1 0 l dC dI cy x0 x a3 a5 v f hIv) k_1052 k_1053 k_1054 k_101 k_1055 hd_yX10_front ⟨Nat.le_of_ble_eq_true rfl, Nat.le_of_ble_eq_true rfl⟩ [0, 1, 2, 3, 4, 5, 6, 7, 8, 9, 10, 11, 12, 13, 14, 15, 16, 17, 18, 19, 20, 21, 22, 23, 24, 25, 26, 27, 28, 29, 30, 31, 32, 33, 34, 35, 36, 37, 38, 39, 40, 41] [42, 43, 44, 45, 46, 47, 48, 49, 50, 51, 52, 53, 54, 55, 56, 57, 58, 59, 60, 61, 62, 63, 64, 65, 66, 67, 68, 69, 70, 71, 72, 73, 74, 75, 76, 77, 78, 79, 80] (lx1 cy x0 y0 x r v f v1 f1 w1 g1) (lx2 cy x0 y0 x r v f v1 f1 w1 g1) (lx3 cy x0 y0 x r v f v1 f1 w1 g1) lx4 lx5 lx6 0 10 rfl rfl rfl hl.1 rfl (Nat.le_of_ble_eq_true rfl) dL_law_876 ⟨Nat.le_of_ble_eq_true rfl, Nat.le_of_ble_eq_true rfl⟩ (fun r6 u H locs hw hP hD hS => ?_)
  have hGx := hw
  have hP : va_P (dC, dI) vwCl (YW cy y0 r v1 f1 w1 g1 ++ XW cy x0 x v f) H := hP
  have hD : va_D (fun q : Nat => s.heap.size ≤ q) (YW cy y0 r v1 f1 w1 g1 ++ XW cy x0 x v f) := hD
  refine lv_pop hx hb dL_law_879 rfl ?_
  refine lv_aload_n hx hb dL_law_880 rfl (lv_at hl 1 rfl) ?_
  refine lv_aload_n hx hb dL_law_881 rfl (lv_at hl 3 rfl) ?_
  refine lv_iload_n hx hb dL_law_882 rfl (lv_at hl 0 rfl) ?_
  refine lv_iconst (v := 1) hx hb dL_law_883 (by decide) ?_
  refine lv_iadd hx hb dL_law_884 ?_
  refine tI (y := t1) et1.symm ?_
  refine va_sld hx hb hX hbl hbA hS (vp_in_iff.mpr ⟨by omega, by omega⟩) dL_law_885 ?_
  refine tI (y := a3) ea3.symm ?_
  refine lv_aload_n hx hb dL_law_886 rfl (lv_at hl 3 rfl) ?_
  refine lv_iload_n hx hb dL_law_887 rfl (lv_at hl 0 rfl) ?_
  refine lv_iconst (v := 2) hx hb dL_law_888 (by decide) ?_
  refine lv_iadd hx hb dL_law_889 ?_
  refine tI (y := t4) et4.symm ?_
  refine va_sld hx hb hX hbl hbA hS (vp_in_iff.mpr ⟨by omega, by omega⟩) dL_law_890 ?_
  refine tI (y := a5) ea5.symm ?_
  refine caVi (n := 2) (wr := XW cy x0 x v f) (rest := []) hx hb hml hown hts hE hP hD hS hA (sY_X11_front_1 0 l dC dI cy y0 r a3 a5 v1 f1 w1 g1 hIv1 hCf1 hRf1) k_1908 k_1909 k_1910 k_114 k_1911 hd_yX11_front ⟨Nat.le_of_ble_eq_true rfl, Nat.le_of_ble_eq_true rfl⟩ [0, 1, 2, 3, 4, 5, 6, 7, 8, 9, 10, 11, 12, 13, 14, 15, 16, 17, 18, 19, 20, 21, 22, 23, 24, 25, 26, 27, 28, 29, 30, 31, 32, 33, 34, 35, 36, 37, 38] [39, 40, 41, 42, 43, 44, 45, 46, 47, 48, 49, 50, 51, 52, 53, 54, 55, 56, 57, 58, 59, 60, 61, 62, 63, 64, 65, 66, 67, 68, 69, 70, 71, 72, 73, 74, 75, 76, 77, 78, 79, 80] (ly1 cy x0 y0 x r v f v1 f1 w1 g1) (ly2 cy x0 y0 x r v f v1 f1 w1 g1) (ly3 cy x0 y0 x r v f v1 f1 w1 g1) ly4 ly5 ly6 0 11 rfl rfl rfl hl.1 rfl (Nat.le_of_ble_eq_true rfl) dL_law_891 ⟨Nat.le_of_ble_eq_true rfl, Nat.le_of_ble_eq_true rfl⟩ (fun r7 u H locs hw hP hD hS => ?_)
  obtain ⟨v8, f9, w10, g11⟩ := u
  obtain ⟨hGy, hVy, hFy, hIv8, hCf9, hRf9, hk0y, hk1y, hk2y, hk3y, hk4y, hk5y, hk8y, hk9y, hk10y, hk13y, hk14y, hk15y, hk17y, hk18y, hk24y, hk25y, hk35y, hk36y, hk38y, hk39y⟩ := hw
  have hP : va_P (dC, dI) vwCl (XW cy x0 x v f ++ YW cy y0 r v8 f9 w10 g11) H := hP
  have hD : va_D (fun q : Nat => s.heap.size ≤ q) (XW cy x0 x v f ++ YW cy y0 r v8 f9 w10 g11) := hD
  refine lv_pop hx hb dL_law_894 rfl ?_
  refine lv_goto (tgt := 1413) hx hb dL_law_895 (by decide) ?_
  exact fin v f v8 f9 w10 g11 _ _ _ hIv hIv8 hCf9 hRf9 (FREL.keep heq0 (fun _ _ => rfl) (fun _ _ => rfl) (KV.use hVy rfl) (KF.use hFy rfl)) hP hD hS hl
