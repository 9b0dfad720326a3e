set_option maxHeartbeats 4000000 in
set_option maxRecDepth 100000 in
theorem law_24 {p : Program} {l : Launch} {e : Env} {s : State} {m : MethodId} {below : List Frame} {meth : Method} {c : Code} {dC : Nat → ClassId} {dI : Nat → Nat → Nat} {cy : Nat → ClassId} {b L : Nat} {xs : Nat → Int32} {Q : State → Prop} {x0 y0 : Nat} {x r : Nat → Nat} (hx : p.tables.exec = Jvm.exec) (hb : c.code = code) (hml : c.maxLocals = 4) (hown : s.vm.findClass RL = some m.cls) (hts : ∀ w ∈ BIG, w.before #[Value.ref b] s = true) (hE : ENV (dC, dI) cy s) (hF : SRF (dC, dI) s) (hT : STR (dC, dI) (fun q : Nat => s.heap.size ≤ q) s s.heap) (hX : va_X b L xs s s.heap) (hbl : b < s.heap.size) (hL : L ≤ 3072) {v : Nat → Int32} {f : Nat → Nat → Int32} {v1 : Nat → Int32} {f1 : Nat → Nat → Int32} {w1 : Int64} {g1 : Nat → Int64} {i : Int32} (hi0 : 0 ≤ i.toInt) (hi6 : i.toInt + 6 ≤ L) {H : Heap} {locs : List Loc} {ls : Array Slot} (hIv : XI v) (hIv1 : YI v1) (hCf1 : YC f1) (hRf1 : progOK (f1 4) (f1 5) (v1 9).toInt.toNat) (heq0 : FREL v f v1 f1) (hP : va_P (dC, dI) vwCl (XW cy x0 x v f ++ YW cy y0 r v1 f1 w1 g1) H) (hD : va_D (fun q : Nat => s.heap.size ≤ q) (XW cy x0 x v f ++ YW cy y0 r v1 f1 w1 g1)) (hS : va_S (fun q : Nat => s.heap.size ≤ q) s.heap H locs) (hl : lv_has ls 4 [(3, .int i), (2, .ref y0), (1, .ref x0), (0, .ref b)]) (fin : ∀ (v : Nat → Int32) (f : Nat → Nat → Int32) (v1 : Nat → Int32) (f1 : Nat → Nat → Int32) (w1 : Int64) (g1 : Nat → Int64) (H : Heap) (locs : List Loc) (ls : Array Slot), XI v → YI v1 → YC f1 → progOK (f1 4) (f1 5) (v1 9).toInt.toNat → FREL v f v1 f1 → va_P (dC, dI) vwCl (XW cy x0 x v f ++ YW cy y0 r v1 f1 w1 g1) H → va_D (fun q : Nat => s.heap.size ≤ q) (XW cy x0 x v f ++ YW cy y0 r v1 f1 w1 g1) → va_S (fun q : Nat => s.heap.size ≤ q) s.heap H locs → lv_has ls 4 [(3, .int i), (2, .ref y0), (1, .ref x0), (0, .ref b)] → W p l e room_1 s m #[Value.ref b] below meth c H locs 81 11738 Q (F0 m 1413 ls [])) : W p l e room_1 s m #[Value.ref b] below meth c H locs 81 11738 Q (F0 m 898 ls []) := by
  have hA : ∀ q : Nat, s.heap.size ≤ q → (fun q : Nat => s.heap.size ≤ q) q := fun _ h => h
  have hbA : ¬ (fun q : Nat => s.heap.size ≤ q) b := Nat.not_le.mpr hbl
  refine lv_aload_n hx hb dL_law_898 rfl (lv_at hl 2 rfl) ?_
  refine lv_aload_n hx hb dL_law_899 rfl (lv_at hl 3 rfl) ?_
  refine lv_iload_n hx hb dL_law_900 rfl (lv_at hl 0 rfl) ?_
  refine lv_iconst (v := 1) hx hb dL_law_901 (by decide) ?_
  refine lv_iadd hx hb dL_law_902 ?_
  refine lv_topi (fun t1 et1 => ?_)
  have rg2 := fb_rng i
  have zt1 : t1.toInt = i.toInt + 1 := by rw [et1]; exact add_i rfl (by decide) (by omega) (by omega)
  refine va_sld hx hb hX hbl hbA hS (vp_in_iff.mpr ⟨by omega, by omega⟩) dL_law_903 ?_
  refine lv_topi (fun a3 ea3 => ?_)
  refine caVi (n := 1) (wr := YW cy y0 r v1 f1 w1 g1) (rest := []) hx hb hml hown hts hE hP hD hS hA (sX_X10_wings_1 l dC dI cy x0 x a3 v f hIv) k_1072 k_1073 k_1074 k_101 k_1075 hd_yX10_wings ⟨Nat.le_of_ble_eq_true rfl, Nat.le_of_ble_eq_true rfl⟩ [0, 1, 2, 3, 4, 5, 6, 7, 8, 9, 10, 11, 12, 13, 14, 15, 16, 17, 18, 19, 20, 21, 22, 23, 24, 25, 26, 27, 28, 29, 30, 31, 32, 33, 34, 35, 36, 37, 38, 39, 40, 41] [42, 43, 44, 45, 46, 47, 48, 49, 50, 51, 52, 53, 54, 55, 56, 57, 58, 59, 60, 61, 62, 63, 64, 65, 66, 67, 68, 69, 70, 71, 72, 73, 74, 75, 76, 77, 78, 79, 80] (lx1 cy x0 y0 x r v f v1 f1 w1 g1) (lx2 cy x0 y0 x r v f v1 f1 w1 g1) (lx3 cy x0 y0 x r v f v1 f1 w1 g1) lx4 lx5 lx6 0 10 rfl rfl rfl hl.1 rfl (Nat.le_of_ble_eq_true rfl) dL_law_904 ⟨Nat.le_of_ble_eq_true rfl, Nat.le_of_ble_eq_true rfl⟩ (fun r4 u H locs hw hP hD hS => ?_)
  have hP : va_P (dC, dI) vwCl (YW cy y0 r v1 f1 w1 g1 ++ XW cy x0 x v f) H := hP
  have hD : va_D (fun q : Nat => s.heap.size ≤ q) (YW cy y0 r v1 f1 w1 g1 ++ XW cy x0 x v f) := hD
  refine lv_pop hx hb dL_law_907 rfl ?_
  refine lv_aload_n hx hb dL_law_908 rfl (lv_at hl 1 rfl) ?_
  refine lv_aload_n hx hb dL_law_909 rfl (lv_at hl 3 rfl) ?_
  refine lv_iload_n hx hb dL_law_910 rfl (lv_at hl 0 rfl) ?_
  refine lv_iconst (v := 1) hx hb dL_law_911 (by decide) ?_
  refine lv_iadd hx hb dL_law_912 ?_
  refine tI (y := t1) et1.symm ?_
  refine va_sld hx hb hX hbl hbA hS (vp_in_iff.mpr ⟨by omega, by omega⟩) dL_law_913 ?_
  refine tI (y := a3) ea3.symm ?_
  refine caVi (n := 1) (wr := XW cy x0 x v f) (rest := []) hx hb hml hown hts hE hP hD hS hA (sY_X11_wings_1 l dC dI cy y0 r a3 v1 f1 w1 g1 hIv1 hCf1 hRf1) k_1916 k_1917 k_1918 k_114 k_1919 hd_yX11_wings ⟨Nat.le_of_ble_eq_true rfl, Nat.le_of_ble_eq_true rfl⟩ [0, 1, 2, 3, 4, 5, 6, 7, 8, 9, 10, 11, 12, 13, 14, 15, 16, 17, 18, 19, 20, 21, 22, 23, 24, 25, 26, 27, 28, 29, 30, 31, 32, 33, 34, 35, 36, 37, 38] [39, 40, 41, 42, 43, 44, 45, 46, 47, 48, 49, 50, 51, 52, 53, 54, 55, 56, 57, 58, 59, 60, 61, 62, 63, 64, 65, 66, 67, 68, 69, 70, 71, 72, 73, 74, 75, 76, 77, 78, 79, 80] (ly1 cy x0 y0 x r v f v1 f1 w1 g1) (ly2 cy x0 y0 x r v f v1 f1 w1 g1) (ly3 cy x0 y0 x r v f v1 f1 w1 g1) ly4 ly5 ly6 0 11 rfl rfl rfl hl.1 rfl (Nat.le_of_ble_eq_true rfl) dL_law_914 ⟨Nat.le_of_ble_eq_true rfl, Nat.le_of_ble_eq_true rfl⟩ (fun r5 u H locs hw hP hD hS => ?_)
  obtain ⟨v6, f7, w8, g9⟩ := u
  obtain ⟨hVy, hFy, hIv6, hCf7, hRf7, hk0y, hk1y, hk2y, hk3y, hk4y, hk5y, hk8y, hk9y, hk10y, hk13y, hk14y, hk15y, hk17y, hk18y, hk24y, hk25y, hk35y, hk36y, hk38y, hk39y⟩ := hw
  have hP : va_P (dC, dI) vwCl (XW cy x0 x v f ++ YW cy y0 r v6 f7 w8 g9) H := hP
  have hD : va_D (fun q : Nat => s.heap.size ≤ q) (XW cy x0 x v f ++ YW cy y0 r v6 f7 w8 g9) := hD
  refine lv_pop hx hb dL_law_917 rfl ?_
  refine lv_goto (tgt := 1413) hx hb dL_law_918 (by decide) ?_
  exact fin v f v6 f7 w8 g9 _ _ _ hIv hIv6 hCf7 hRf7 (FREL.keep heq0 (fun _ _ => rfl) (fun _ _ => rfl) (KV.use hVy rfl) (KF.use hFy rfl)) hP hD hS hl
set_option maxHeartbeats 4000000 in
set_option maxRecDepth 100000 in
theorem law_25 {p : Program} {l : Launch} {e : Env} {s : State} {m : MethodId} {below : List Frame} {meth : Method} {c : Code} {dC : Nat → ClassId} {dI : Nat → Nat → Nat} {cy : Nat → ClassId} {b L : Nat} {xs : Nat → Int32} {Q : State → Prop} {x0 y0 : Nat} {x r : Nat → Nat} (hx : p.tables.exec = Jvm.exec) (hb : c.code = code) (hml : c.maxLocals = 4) (hown : s.vm.findClass RL = some m.cls) (hts : ∀ w ∈ BIG, w.before #[Value.ref b] s = true) (hE : ENV (dC, dI) cy s) (hF : SRF (dC, dI) s) (hT : STR (dC, dI) (fun q : Nat => s.heap.size ≤ q) s s.heap) (hX : va_X b L xs s s.heap) (hbl : b < s.heap.size) (hL : L ≤ 3072) {v : Nat → Int32} {f : Nat → Nat → Int32} {v1 : Nat → Int32} {f1 : Nat → Nat → Int32} {w1 : Int64} {g1 : Nat → Int64} {i : Int32} (hi0 : 0 ≤ i.toInt) (hi6 : i.toInt + 6 ≤ L) {H : Heap} {locs : List Loc} {ls : Array Slot} (hIv : XI v) (hIv1 : YI v1) (hCf1 : YC f1) (hRf1 : progOK (f1 4) (f1 5) (v1 9).toInt.toNat) (heq0 : FREL v f v1 f1) (hP : va_P (dC, dI) vwCl (XW cy x0 x v f ++ YW cy y0 r v1 f1 w1 g1) H) (hD : va_D (fun q : Nat => s.heap.size ≤ q) (XW cy x0 x v f ++ YW cy y0 r v1 f1 w1 g1)) (hS : va_S (fun q : Nat => s.heap.size ≤ q) s.heap H locs) (hl : lv_has ls 4 [(3, .int i), (2, .ref y0), (1, .ref x0), (0, .ref b)]) (fin : ∀ (v : Nat → Int32) (f : Nat → Nat → Int32) (v1 : Nat → Int32) (f1 : Nat → Nat → Int32) (w1 : Int64) (g1 : Nat → Int64) (H : Heap) (locs : List Loc) (ls : Array Slot), XI v → YI v1 → YC f1 → progOK (f1 4) (f1 5) (v1 9).toInt.toNat → FREL v f v1 f1 → va_P (dC, dI) vwCl (XW cy x0 x v f ++ YW cy y0 r v1 f1 w1 g1) H → va_D (fun q : Nat => s.heap.size ≤ q) (XW cy x0 x v f ++ YW cy y0 r v1 f1 w1 g1) → va_S (fun q : Nat => s.heap.size ≤ q) s.heap H locs → lv_has ls 4 [(3, .int i), (2, .ref y0), (1, .ref x0), (0, .ref b)] → W p l e room_1 s m #[Value.ref b] below meth c H locs 81 11738 Q (F0 m 1413 ls [])) : W p l e room_1 s m #[Value.ref b] below meth c H locs 81 11738 Q (F0 m 921 ls []) := by
  have hA : ∀ q : Nat, s.heap.size ≤ q → (fun q : Nat => s.heap.size ≤ q) q := fun _ h => h
  have hbA : ¬ (fun q : Nat => s.heap.size ≤ q) b := Nat.not_le.mpr hbl
  refine lv_aload_n hx hb dL_law_921 rfl (lv_at hl 2 rfl) ?_
  refine caVi (n := 0) (wr := YW cy y0 r v1 f1 w1 g1) (rest := []) hx hb hml hown hts hE hP hD hS hA (sX_X10_cloth_1 l dC dI cy x0 x  v f hIv) k_1093 k_1094 k_1095 k_101 k_1096 hd_yX10_cloth ⟨Nat.le_of_ble_eq_true rfl, Nat.le_of_ble_eq_true rfl⟩ [0, 1, 2, 3, 4, 5, 6, 7, 8, 9, 10, 11, 12, 13, 14, 15, 16, 17, 18, 19, 20, 21, 22, 23, 24, 25, 26, 27, 28, 29, 30, 31, 32, 33, 34, 35, 36, 37, 38, 39, 40, 41] [42, 43, 44, 45, 46, 47, 48, 49, 50, 51, 52, 53, 54, 55, 56, 57, 58, 59, 60, 61, 62, 63, 64, 65, 66, 67, 68, 69, 70, 71, 72, 73, 74, 75, 76, 77, 78, 79, 80] (lx1 cy x0 y0 x r v f v1 f1 w1 g1) (lx2 cy x0 y0 x r v f v1 f1 w1 g1) (lx3 cy x0 y0 x r v f v1 f1 w1 g1) lx4 lx5 lx6 0 10 rfl rfl rfl hl.1 rfl (Nat.le_of_ble_eq_true rfl) dL_law_922 ⟨Nat.le_of_ble_eq_true rfl, Nat.le_of_ble_eq_true rfl⟩ (fun r1 u H locs hw hP hD hS => ?_)
  obtain ⟨v2, f3⟩ := u
  obtain ⟨hVx, hFx, hIv2, hk0x, hk1x, hk7x, hk8x, hk9x, hk10x, hk31x, hk32x⟩ := hw
  have hP : va_P (dC, dI) vwCl (YW cy y0 r v1 f1 w1 g1 ++ XW cy x0 x v2 f3) H := hP
  have hD : va_D (fun q : Nat => s.heap.size ≤ q) (YW cy y0 r v1 f1 w1 g1 ++ XW cy x0 x v2 f3) := hD
  refine lv_pop hx hb dL_law_925 rfl ?_
  refine lv_aload_n hx hb dL_law_926 rfl (lv_at hl 1 rfl) ?_
  refine caVi (n := 0) (wr := XW cy x0 x v2 f3) (rest := []) hx hb hml hown hts hE hP hD hS hA (sY_X11_cloth_1 l dC dI cy y0 r  v1 f1 w1 g1 hIv1 hCf1 hRf1) k_1923 k_1924 k_1925 k_114 k_1926 hd_yX11_cloth ⟨Nat.le_of_ble_eq_true rfl, Nat.le_of_ble_eq_true rfl⟩ [0, 1, 2, 3, 4, 5, 6, 7, 8, 9, 10, 11, 12, 13, 14, 15, 16, 17, 18, 19, 20, 21, 22, 23, 24, 25, 26, 27, 28, 29, 30, 31, 32, 33, 34, 35, 36, 37, 38] [39, 40, 41, 42, 43, 44, 45, 46, 47, 48, 49, 50, 51, 52, 53, 54, 55, 56, 57, 58, 59, 60, 61, 62, 63, 64, 65, 66, 67, 68, 69, 70, 71, 72, 73, 74, 75, 76, 77, 78, 79, 80] (ly1 cy x0 y0 x r v2 f3 v1 f1 w1 g1) (ly2 cy x0 y0 x r v2 f3 v1 f1 w1 g1) (ly3 cy x0 y0 x r v2 f3 v1 f1 w1 g1) ly4 ly5 ly6 0 11 rfl rfl rfl hl.1 rfl (Nat.le_of_ble_eq_true rfl) dL_law_927 ⟨Nat.le_of_ble_eq_true rfl, Nat.le_of_ble_eq_true rfl⟩ (fun r4 u H locs hw hP hD hS => ?_)
  obtain ⟨v5, f6, w7, g8⟩ := u
  obtain ⟨hVy, hFy, hIv5, hCf6, hRf6, hk0y, hk1y, hk2y, hk3y, hk4y, hk5y, hk8y, hk9y, hk10y, hk13y, hk14y, hk15y, hk17y, hk18y, hk24y, hk25y, hk35y, hk36y, hk38y, hk39y⟩ := hw
  have hP : va_P (dC, dI) vwCl (XW cy x0 x v2 f3 ++ YW cy y0 r v5 f6 w7 g8) H := hP
  have hD : va_D (fun q : Nat => s.heap.size ≤ q) (XW cy x0 x v2 f3 ++ YW cy y0 r v5 f6 w7 g8) := hD
  refine lv_pop hx hb dL_law_930 rfl ?_
  refine lv_goto (tgt := 1413) hx hb dL_law_931 (by decide) ?_
  exact fin v2 f3 v5 f6 w7 g8 _ _ _ hIv2 hIv5 hCf6 hRf6 (FREL.keep heq0 (KV.use hVx rfl) (KF.use hFx rfl) (KV.use hVy rfl) (KF.use hFy rfl)) hP hD hS hl
set_option maxHeartbeats 4000000 in
set_option maxRecDepth 100000 in
theorem law_26 {p : Program} {l : Launch} {e : Env} {s : State} {m : MethodId} {below : List Frame} {meth : Method} {c : Code} {dC : Nat → ClassId} {dI : Nat → Nat → Nat} {cy : Nat → ClassId} {b L : Nat} {xs : Nat → Int32} {Q : State → Prop} {x0 y0 : Nat} {x r : Nat → Nat} (hx : p.tables.exec = Jvm.exec) (hb : c.code = code) (hml : c.maxLocals = 4) (hown : s.vm.findClass RL = some m.cls) (hts : ∀ w ∈ BIG, w.before #[Value.ref b] s = true) (hE : ENV (dC, dI) cy s) (hF : SRF (dC, dI) s) (hT : STR (dC, dI) (fun q : Nat => s.heap.size ≤ q) s s.heap) (hX : va_X b L xs s s.heap) (hbl : b < s.heap.size) (hL : L ≤ 3072) {v : Nat → Int32} {f : Nat → Nat → Int32} {v1 : Nat → Int32} {f1 : Nat → Nat → Int32} {w1 : Int64} {g1 : Nat → Int64} {i : Int32} (hi0 : 0 ≤ i.toInt) (hi6 : i.toInt + 6 ≤ L) {H : Heap} {locs : List Loc} {ls : Array Slot} (hIv : XI v) (hIv1 : YI v1) (hCf1 : YC f1) (hRf1 : progOK (f1 4) (f1 5) (v1 9).toInt.toNat) (heq0 : FREL v f v1 f1) (hP : va_P (dC, dI) vwCl (XW cy x0 x v f ++ YW cy y0 r v1 f1 w1 g1) H) (hD : va_D (fun q : Nat => s.heap.size ≤ q) (XW cy x0 x v f ++ YW cy y0 r v1 f1 w1 g1)) (hS : va_S (fun q : Nat => s.heap.size ≤ q) s.heap H locs) (hl : lv_has ls 4 [(3, .int i), (2, .ref y0), (1, .ref x0), (0, .ref b)]) (fin : ∀ (v : Nat → Int32) (f : Nat → Nat → Int32) (v1 : Nat → Int32) (f1 : Nat → Nat → Int32) (w1 : Int64) (g1 : Nat → Int64) (H : Heap) (locs : List Loc) (ls : Array Slot), XI v → YI v1 → YC f1 → progOK (f1 4) (f1 5) (v1 9).toInt.toNat → FREL v f v1 f1 → va_P (dC, dI) vwCl (XW cy x0 x v f ++ YW cy y0 r v1 f1 w1 g1) H → va_D (fun q : Nat => s.heap.size ≤ q) (XW cy x0 x v f ++ YW cy y0 r v1 f1 w1 g1) → va_S (fun q : Nat => s.heap.size ≤ q) s.heap H locs → lv_has ls 4 [(3, .int i), (2, .ref y0), (1, .ref x0), (0, .ref b)] → W p l e room_1 s m #[Value.ref b] below meth c H locs 81 11738 Q (F0 m 1413 ls [])) : W p l e room_1 s m #[Value.ref b] below meth c H locs 81 11738 Q (F0 m 934 ls []) := by
  have hA : ∀ q : Nat, s.heap.size ≤ q → (fun q : Nat => s.heap.size ≤ q) q := fun _ h => h
  have hbA : ¬ (fun q : Nat => s.heap.size ≤ q) b := Nat.not_le.mpr hbl
  refine lv_aload_n hx hb dL_law_934 rfl (lv_at hl 2 rfl) ?_
  refine caVi (n := 0) (wr := YW cy y0 r v1 f1 w1 g1) (rest := []) hx hb hml hown hts hE hP hD hS hA (sX_X10_buttons_1 l dC dI cy x0 x  v f hIv) k_1111 k_1112 k_1113 k_101 k_1114 hd_yX10_buttons ⟨Nat.le_of_ble_eq_true rfl, Nat.le_of_ble_eq_true rfl⟩ [0, 1, 2, 3, 4, 5, 6, 7, 8, 9, 10, 11, 12, 13, 14, 15, 16, 17, 18, 19, 20, 21, 22, 23, 24, 25, 26, 27, 28, 29, 30, 31, 32, 33, 34, 35, 36, 37, 38, 39, 40, 41] [42, 43, 44, 45, 46, 47, 48, 49, 50, 51, 52, 53, 54, 55, 56, 57, 58, 59, 60, 61, 62, 63, 64, 65, 66, 67, 68, 69, 70, 71, 72, 73, 74, 75, 76, 77, 78, 79, 80] (lx1 cy x0 y0 x r v f v1 f1 w1 g1) (lx2 cy x0 y0 x r v f v1 f1 w1 g1) (lx3 cy x0 y0 x r v f v1 f1 w1 g1) lx4 lx5 lx6 0 10 rfl rfl rfl hl.1 rfl (Nat.le_of_ble_eq_true rfl) dL_law_935 ⟨Nat.le_of_ble_eq_true rfl, Nat.le_of_ble_eq_true rfl⟩ (fun r1 u H locs hw hP hD hS => ?_)
  obtain ⟨v2, f3⟩ := u
  obtain ⟨hVx, hFx, hIv2, hk0x, hk1x, hk7x, hk8x, hk9x, hk10x, hk31x, hk32x⟩ := hw
  have hP : va_P (dC, dI) vwCl (YW cy y0 r v1 f1 w1 g1 ++ XW cy x0 x v2 f3) H := hP
  have hD : va_D (fun q : Nat => s.heap.size ≤ q) (YW cy y0 r v1 f1 w1 g1 ++ XW cy x0 x v2 f3) := hD
  refine lv_pop hx hb dL_law_938 rfl ?_
  refine lv_aload_n hx hb dL_law_939 rfl (lv_at hl 1 rfl) ?_
  refine caVi (n := 0) (wr := XW cy x0 x v2 f3) (rest := []) hx hb hml hown hts hE hP hD hS hA (sY_X11_buttons_1 l dC dI cy y0 r  v1 f1 w1 g1 hIv1 hCf1 hRf1) k_1932 k_1933 k_1934 k_114 k_1935 hd_yX11_buttons ⟨Nat.le_of_ble_eq_true rfl, Nat.le_of_ble_eq_true rfl⟩ [0, 1, 2, 3, 4, 5, 6, 7, 8, 9, 10, 11, 12, 13, 14, 15, 16, 17, 18, 19, 20, 21, 22, 23, 24, 25, 26, 27, 28, 29, 30, 31, 32, 33, 34, 35, 36, 37, 38] [39, 40, 41, 42, 43, 44, 45, 46, 47, 48, 49, 50, 51, 52, 53, 54, 55, 56, 57, 58, 59, 60, 61, 62, 63, 64, 65, 66, 67, 68, 69, 70, 71, 72, 73, 74, 75, 76, 77, 78, 79, 80] (ly1 cy x0 y0 x r v2 f3 v1 f1 w1 g1) (ly2 cy x0 y0 x r v2 f3 v1 f1 w1 g1) (ly3 cy x0 y0 x r v2 f3 v1 f1 w1 g1) ly4 ly5 ly6 0 11 rfl rfl rfl hl.1 rfl (Nat.le_of_ble_eq_true rfl) dL_law_940 ⟨Nat.le_of_ble_eq_true rfl, Nat.le_of_ble_eq_true rfl⟩ (fun r4 u H locs hw hP hD hS => ?_)
  obtain ⟨v5, f6, w7, g8⟩ := u
  obtain ⟨hVy, hFy, hIv5, hCf6, hRf6, hk0y, hk1y, hk2y, hk3y, hk4y, hk5y, hk8y, hk9y, hk10y, hk13y, hk14y, hk15y, hk17y, hk18y, hk24y, hk25y, hk35y, hk36y, hk38y, hk39y⟩ := hw
  have hP : va_P (dC, dI) vwCl (XW cy x0 x v2 f3 ++ YW cy y0 r v5 f6 w7 g8) H := hP
  have hD : va_D (fun q : Nat => s.heap.size ≤ q) (XW cy x0 x v2 f3 ++ YW cy y0 r v5 f6 w7 g8) := hD
  refine lv_pop hx hb dL_law_943 rfl ?_
  refine lv_goto (tgt := 1413) hx hb dL_law_944 (by decide) ?_
  exact fin v2 f3 v5 f6 w7 g8 _ _ _ hIv2 hIv5 hCf6 hRf6 (FREL.keep heq0 (KV.use hVx rfl) (KF.use hFx rfl) (KV.use hVy rfl) (KF.use hFy rfl)) hP hD hS hl
set_option maxHeartbeats 4000000 in
set_option maxRecDepth 100000 in
theorem law_27 {p : Program} {l : Launch} {e : Env} {s : State} {m : MethodId} {below : List Frame} {meth : Method} {c : Code} {dC : Nat → ClassId} {dI : Nat → Nat → Nat} {cy : Nat → ClassId} {b L : Nat} {xs : Nat → Int32} {Q : State → Prop} {x0 y0 : Nat} {x r : Nat → Nat} (hx : p.tables.exec = Jvm.exec) (hb : c.code = code) (hml : c.maxLocals = 4) (hown : s.vm.findClass RL = some m.cls) (hts : ∀ w ∈ BIG, w.before #[Value.ref b] s = true) (hE : ENV (dC, dI) cy s) (hF : SRF (dC, dI) s) (hT : STR (dC, dI) (fun q : Nat => s.heap.size ≤ q) s s.heap) (hX : va_X b L xs s s.heap) (hbl : b < s.heap.size) (hL : L ≤ 3072) {v : Nat → Int32} {f : Nat → Nat → Int32} {v1 : Nat → Int32} {f1 : Nat → Nat → Int32} {w1 : Int64} {g1 : Nat → Int64} {i : Int32} (hi0 : 0 ≤ i.toInt) (hi6 : i.toInt + 6 ≤ L) {H : Heap} {locs : List Loc} {ls : Array Slot} (hIv : XI v) (hIv1 : YI v1) (hCf1 : YC f1) (hRf1 : progOK (f1 4) (f1 5) (v1 9).toInt.toNat) (heq0 : FREL v f v1 f1) (hP : va_P (dC, dI) vwCl (XW cy x0 x v f ++ YW cy y0 r v1 f1 w1 g1) H) (hD : va_D (fun q : Nat => s.heap.size ≤ q) (XW cy x0 x v f ++ YW cy y0 r v1 f1 w1 g1)) (hS : va_S (fun q : Nat => s.heap.size ≤ q) s.heap H locs) (hl : lv_has ls 4 [(3, .int i), (2, .ref y0), (1, .ref x0), (0, .ref b)]) (fin : ∀ (v : Nat → Int32) (f : Nat → Nat → Int32) (v1 : Nat → Int32) (f1 : Nat → Nat → Int32) (w1 : Int64) (g1 : Nat → Int64) (H : Heap) (locs : List Loc) (ls : Array Slot), XI v → YI v1 → YC f1 → progOK (f1 4) (f1 5) (v1 9).toInt.toNat → FREL v f v1 f1 → va_P (dC, dI) vwCl (XW cy x0 x v f ++ YW cy y0 r v1 f1 w1 g1) H → va_D (fun q : Nat => s.heap.size ≤ q) (XW cy x0 x v f ++ YW cy y0 r v1 f1 w1 g1) → va_S (fun q : Nat => s.heap.size ≤ q) s.heap H locs → lv_has ls 4 [(3, .int i), (2, .ref y0), (1, .ref x0), (0, .ref b)] → W p l e room_1 s m #[Value.ref b] below meth c H locs 81 11738 Q (F0 m 1413 ls [])) : W p l e room_1 s m #[Value.ref b] below meth c H locs 81 11738 Q (F0 m 947 ls []) := by
  have hA : ∀ q : Nat, s.heap.size ≤ q → (fun q : Nat => s.heap.size ≤ q) q := fun _ h => h
  have hbA : ¬ (fun q : Nat => s.heap.size ≤ q) b := Nat.not_le.mpr hbl
  refine lv_aload_n hx hb dL_law_947 rfl (lv_at hl 2 rfl) ?_
  refine lv_aload_n hx hb dL_law_948 rfl (lv_at hl 3 rfl) ?_
  refine lv_iload_n hx hb dL_law_949 rfl (lv_at hl 0 rfl) ?_
  refine lv_iconst (v := 1) hx hb dL_law_950 (by decide) ?_
  refine lv_iadd hx hb dL_law_951 ?_
  refine lv_topi (fun t1 et1 => ?_)
  have rg2 := fb_rng i
  have zt1 : t1.toInt = i.toInt + 1 := by rw [et1]; exact add_i rfl (by decide) (by omega) (by omega)
  refine va_sld hx hb hX hbl hbA hS (vp_in_iff.mpr ⟨by omega, by omega⟩) dL_law_952 ?_
  refine lv_topi (fun a3 ea3 => ?_)
  refine lv_aload_n hx hb dL_law_953 rfl (lv_at hl 3 rfl) ?_
  refine lv_iload_n hx hb dL_law_954 rfl (lv_at hl 0 rfl) ?_
  refine lv_iconst (v := 2) hx hb dL_law_955 (by decide) ?_
  refine lv_iadd hx hb dL_law_956 ?_
  refine lv_topi (fun t4 et4 => ?_)
  have zt4 : t4.toInt = i.toInt + 2 := by rw [et4]; exact add_i rfl (by decide) (by omega) (by omega)
  refine va_sld hx hb hX hbl hbA hS (vp_in_iff.mpr ⟨by omega, by omega⟩) dL_law_957 ?_
  refine lv_topi (fun a5 ea5 => ?_)
  refine caVi (n := 2) (wr := YW cy y0 r v1 f1 w1 g1) (rest := []) hx hb hml hown hts hE hP hD hS hA (sX_X10_reach_1 l dC dI cy x0 x a3 a5 v f hIv) k_1129 k_1130 k_1131 k_101 k_1132 hd_yX10_reach ⟨Nat.le_of_ble_eq_true rfl, Nat.le_of_ble_eq_true rfl⟩ [0, 1, 2, 3, 4, 5, 6, 7, 8, 9, 10, 11, 12, 13, 14, 15, 16, 17, 18, 19, 20, 21, 22, 23, 24, 25, 26, 27, 28, 29, 30, 31, 32, 33, 34, 35, 36, 37, 38, 39, 40, 41] [42, 43, 44, 45, 46, 47, 48, 49, 50, 51, 52, 53, 54, 55, 56, 57, 58, 59, 60, 61, 62, 63, 64, 65, 66, 67, 68, 69, 70, 71, 72, 73, 74, 75, 76, 77, 78, 79, 80] (lx1 cy x0 y0 x r v f v1 f1 w1 g1) (lx2 cy x0 y0 x r v f v1 f1 w1 g1) (lx3 cy x0 y0 x r v f v1 f1 w1 g1) lx4 lx5 lx6 0 10 rfl rfl rfl hl.1 rfl (Nat.le_of_ble_eq_true rfl) dL_law_958 ⟨Nat.le_of_ble_eq_true rfl, Nat.le_of_ble_eq_true rfl⟩ (fun r6 u H locs hw hP hD hS => ?_)
  obtain ⟨v7, f8⟩ := u
  obtain ⟨hVx, hFx, hIv7, hk0x, hk1x, hk7x, hk8x, hk9x, hk10x, hk31x, hk32x⟩ := hw
  have hP : va_P (dC, dI) vwCl (YW cy y0 r v1 f1 w1 g1 ++ XW cy x0 x v7 f8) H := hP
  have hD : va_D (fun q : Nat => s.heap.size ≤ q) (YW cy y0 r v1 f1 w1 g1 ++ XW cy x0 x v7 f8) := hD
  refine lv_pop hx hb dL_law_961 rfl ?_
  refine lv_aload_n hx hb dL_law_962 rfl (lv_at hl 1 rfl) ?_
  refine lv_aload_n hx hb dL_law_963 rfl (lv_at hl 3 rfl) ?_
  refine lv_iload_n hx hb dL_law_964 rfl (lv_at hl 0 rfl) ?_
  refine lv_iconst (v := 1) hx hb dL_law_965 (by decide) ?_
  refine lv_iadd hx hb dL_law_966 ?_
  refine tI (y := t1) et1.symm ?_
  refine va_sld hx hb hX hbl hbA hS (vp_in_iff.mpr ⟨by omega, by omega⟩) dL_law_967 ?_
  refine tI (y := a3) ea3.symm ?_
  refine lv_aload_n hx hb dL_law_968 rfl (lv_at hl 3 rfl) ?_
  refine lv_iload_n hx hb dL_law_969 rfl (lv_at hl 0 rfl) ?_
  refine lv_iconst (v := 2) hx hb dL_law_970 (by decide) ?_
  refine lv_iadd hx hb dL_law_971 ?_
  refine tI (y := t4) et4.symm ?_
  refine va_sld hx hb hX hbl hbA hS (vp_in_iff.mpr ⟨by omega, by omega⟩) dL_law_972 ?_
  refine tI (y := a5) ea5.symm ?_
  refine caVi (n := 2) (wr := XW cy x0 x v7 f8) (rest := []) hx hb hml hown hts hE hP hD hS hA (sY_X11_reach_1 l dC dI cy y0 r a3 a5 v1 f1 w1 g1 hIv1 hCf1 hRf1) k_1944 k_1945 k_1946 k_114 k_1947 hd_yX11_reach ⟨Nat.le_of_ble_eq_true rfl, Nat.le_of_ble_eq_true rfl⟩ [0, 1, 2, 3, 4, 5, 6, 7, 8, 9, 10, 11, 12, 13, 14, 15, 16, 17, 18, 19, 20, 21, 22, 23, 24, 25, 26, 27, 28, 29, 30, 31, 32, 33, 34, 35, 36, 37, 38] [39, 40, 41, 42, 43, 44, 45, 46, 47, 48, 49, 50, 51, 52, 53, 54, 55, 56, 57, 58, 59, 60, 61, 62, 63, 64, 65, 66, 67, 68, 69, 70, 71, 72, 73, 74, 75, 76, 77, 78, 79, 80] (ly1 cy x0 y0 x r v7 f8 v1 f1 w1 g1) (ly2 cy x0 y0 x r v7 f8 v1 f1 w1 g1) (ly3 cy x0 y0 x r v7 f8 v1 f1 w1 g1) ly4 ly5 ly6 0 11 rfl rfl rfl hl.1 rfl (Nat.le_of_ble_eq_true rfl) dL_law_973 ⟨Nat.le_of_ble_eq_true rfl, Nat.le_of_ble_eq_true rfl⟩ (fun r9 u H locs hw hP hD hS => ?_)
  obtain ⟨v10, f11, w12, g13⟩ := u
  obtain ⟨hVy, hFy, hIv10, hCf11, hRf11, hk0y, hk1y, hk2y, hk3y, hk4y, hk5y, hk8y, hk9y, hk10y, hk13y, hk14y, hk15y, hk17y, hk18y, hk24y, hk25y, hk35y, hk36y, hk38y, hk39y⟩ := hw
  have hP : va_P (dC, dI) vwCl (XW cy x0 x v7 f8 ++ YW cy y0 r v10 f11 w12 g13) H := hP
  have hD : va_D (fun q : Nat => s.heap.size ≤ q) (XW cy x0 x v7 f8 ++ YW cy y0 r v10 f11 w12 g13) := hD
  refine lv_pop hx hb dL_law_976 rfl ?_
  refine lv_goto (tgt := 1413) hx hb dL_law_977 (by decide) ?_
  exact fin v7 f8 v10 f11 w12 g13 _ _ _ hIv7 hIv10 hCf11 hRf11 (FREL.keep heq0 (KV.use hVx rfl) (KF.use hFx rfl) (KV.use hVy rfl) (KF.use hFy rfl)) hP hD hS hl
set_option maxHeartbeats 4000000 in
set_option maxRecDepth 100000 in
theorem law_28 {p : Program} {l : Launch} {e : Env} {s : State} {m : MethodId} {below : List Frame} {meth : Method} {c : Code} {dC : Nat → ClassId} {dI : Nat → Nat → Nat} {cy : Nat → ClassId} {b L : Nat} {xs : Nat → Int32} {Q : State → Prop} {x0 y0 : Nat} {x r : Nat → Nat} (hx : p.tables.exec = Jvm.exec) (hb : c.code = code) (hml : c.maxLocals = 4) (hown : s.vm.findClass RL = some m.cls) (hts : ∀ w ∈ BIG, w.before #[Value.ref b] s = true) (hE : ENV (dC, dI) cy s) (hF : SRF (dC, dI) s) (hT : STR (dC, dI) (fun q : Nat => s.heap.size ≤ q) s s.heap) (hX : va_X b L xs s s.heap) (hbl : b < s.heap.size) (hL : L ≤ 3072) {v : Nat → Int32} {f : Nat → Nat → Int32} {v1 : Nat → Int32} {f1 : Nat → Nat → Int32} {w1 : Int64} {g1 : Nat → Int64} {i : Int32} (hi0 : 0 ≤ i.toInt) (hi6 : i.toInt + 6 ≤ L) {H : Heap} {locs : List Loc} {ls : Array Slot} (hIv : XI v) (hIv1 : YI v1) (hCf1 : YC f1) (hRf1 : progOK (f1 4) (f1 5) (v1 9).toInt.toNat) (heq0 : FREL v f v1 f1) (hP : va_P (dC, dI) vwCl (XW cy x0 x v f ++ YW cy y0 r v1 f1 w1 g1) H) (hD : va_D (fun q : Nat => s.heap.size ≤ q) (XW cy x0 x v f ++ YW cy y0 r v1 f1 w1 g1)) (hS : va_S (fun q : Nat => s.heap.size ≤ q) s.heap H locs) (hl : lv_has ls 4 [(3, .int i), (2, .ref y0), (1, .ref x0), (0, .ref b)]) (fin : ∀ (v : Nat → Int32) (f : Nat → Nat → Int32) (v1 : Nat → Int32) (f1 : Nat → Nat → Int32) (w1 : Int64) (g1 : Nat → Int64) (H : Heap) (locs : List Loc) (ls : Array Slot), XI v → YI v1 → YC f1 → progOK (f1 4) (f1 5) (v1 9).toInt.toNat → FREL v f v1 f1 → va_P (dC, dI) vwCl (XW cy x0 x v f ++ YW cy y0 r v1 f1 w1 g1) H → va_D (fun q : Nat => s.heap.size ≤ q) (XW cy x0 x v f ++ YW cy y0 r v1 f1 w1 g1) → va_S (fun q : Nat => s.heap.size ≤ q) s.heap H locs → lv_has ls 4 [(3, .int i), (2, .ref y0), (1, .ref x0), (0, .ref b)] → W p l e room_1 s m #[Value.ref b] below meth c H locs 81 11738 Q (F0 m 1413 ls [])) : W p l e room_1 s m #[Value.ref b] below meth c H locs 81 11738 Q (F0 m 980 ls []) := by
  have hA : ∀ q : Nat, s.heap.size ≤ q → (fun q : Nat => s.heap.size ≤ q) q := fun _ h => h
  have hbA : ¬ (fun q : Nat => s.heap.size ≤ q) b := Nat.not_le.mpr hbl
  refine lv_aload_n hx hb dL_law_980 rfl (lv_at hl 2 rfl) ?_
  refine caVi (n := 0) (wr := YW cy y0 r v1 f1 w1 g1) (rest := []) hx hb hml hown hts hE hP hD hS hA (sX_X10_turning_1 l dC dI cy x0 x  v f hIv) k_1150 k_1151 k_1152 k_101 k_1153 hd_yX10_turning ⟨Nat.le_of_ble_eq_true rfl, Nat.le_of_ble_eq_true rfl⟩ [0, 1, 2, 3, 4, 5, 6, 7, 8, 9, 10, 11, 12, 13, 14, 15, 16, 17, 18, 19, 20, 21, 22, 23, 24, 25, 26, 27, 28, 29, 30, 31, 32, 33, 34, 35, 36, 37, 38, 39, 40, 41] [42, 43, 44, 45, 46, 47, 48, 49, 50, 51, 52, 53, 54, 55, 56, 57, 58, 59, 60, 61, 62, 63, 64, 65, 66, 67, 68, 69, 70, 71, 72, 73, 74, 75, 76, 77, 78, 79, 80] (lx1 cy x0 y0 x r v f v1 f1 w1 g1) (lx2 cy x0 y0 x r v f v1 f1 w1 g1) (lx3 cy x0 y0 x r v f v1 f1 w1 g1) lx4 lx5 lx6 0 10 rfl rfl rfl hl.1 rfl (Nat.le_of_ble_eq_true rfl) dL_law_981 ⟨Nat.le_of_ble_eq_true rfl, Nat.le_of_ble_eq_true rfl⟩ (fun r1 u H locs hw hP hD hS => ?_)
  obtain ⟨v2, f3⟩ := u
  obtain ⟨hVx, hFx, hIv2, hk0x, hk1x, hk7x, hk8x, hk9x, hk10x, hk31x, hk32x⟩ := hw
  have hP : va_P (dC, dI) vwCl (YW cy y0 r v1 f1 w1 g1 ++ XW cy x0 x v2 f3) H := hP
  have hD : va_D (fun q : Nat => s.heap.size ≤ q) (YW cy y0 r v1 f1 w1 g1 ++ XW cy x0 x v2 f3) := hD
  refine lv_pop hx hb dL_law_984 rfl ?_
  refine lv_aload_n hx hb dL_law_985 rfl (lv_at hl 1 rfl) ?_
  refine caVi (n := 0) (wr := XW cy x0 x v2 f3) (rest := []) hx hb hml hown hts hE hP hD hS hA (sY_X11_turning_1 l dC dI cy y0 r  v1 f1 w1 g1 hIv1 hCf1 hRf1) k_1960 k_1961 k_1962 k_114 k_1963 hd_yX11_turning ⟨Nat.le_of_ble_eq_true rfl, Nat.le_of_ble_eq_true rfl⟩ [0, 1, 2, 3, 4, 5, 6, 7, 8, 9, 10, 11, 12, 13, 14, 15, 16, 17, 18, 19, 20, 21, 22, 23, 24, 25, 26, 27, 28, 29, 30, 31, 32, 33, 34, 35, 36, 37, 38] [39, 40, 41, 42, 43, 44, 45, 46, 47, 48, 49, 50, 51, 52, 53, 54, 55, 56, 57, 58, 59, 60, 61, 62, 63, 64, 65, 66, 67, 68, 69, 70, 71, 72, 73, 74, 75, 76, 77, 78, 79, 80] (ly1 cy x0 y0 x r v2 f3 v1 f1 w1 g1) (ly2 cy x0 y0 x r v2 f3 v1 f1 w1 g1) (ly3 cy x0 y0 x r v2 f3 v1 f1 w1 g1) ly4 ly5 ly6 0 11 rfl rfl rfl hl.1 rfl (Nat.le_of_ble_eq_true rfl) dL_law_986 ⟨Nat.le_of_ble_eq_true rfl, Nat.le_of_ble_eq_true rfl⟩ (fun r4 u H locs hw hP hD hS => ?_)
  obtain ⟨v5, f6, w7, g8⟩ := u
  obtain ⟨hVy, hFy, hIv5, hCf6, hRf6, hk0y, hk1y, hk2y, hk3y, hk4y, hk5y, hk8y, hk9y, hk10y, hk13y, hk14y, hk15y, hk17y, hk18y, hk24y, hk25y, hk35y, hk36y, hk38y, hk39y⟩ := hw
  have hP : va_P (dC, dI) vwCl (XW cy x0 x v2 f3 ++ YW cy y0 r v5 f6 w7 g8) H := hP
  have hD : va_D (fun q : Nat => s.heap.size ≤ q) (XW cy x0 x v2 f3 ++ YW cy y0 r v5 f6 w7 g8) := hD
  refine lv_pop hx hb dL_law_989 rfl ?_
  refine lv_goto (tgt := 1413) hx hb dL_law_990 (by decide) ?_
  exact fin v2 f3 v5 f6 w7 g8 _ _ _ hIv2 hIv5 hCf6 hRf6 (FREL.keep heq0 (KV.use hVx rfl) (KF.use hFx rfl) (KV.use hVy rfl) (KF.use hFy rfl)) hP hD hS hl
set_option maxHeartbeats 4000000 in
set_option maxRecDepth 100000 in
theorem law_29 {p : Program} {l : Launch} {e : Env} {s : State} {m : MethodId} {below : List Frame} {meth : Method} {c : Code} {dC : Nat → ClassId} {dI : Nat → Nat → Nat} {cy : Nat → ClassId} {b L : Nat} {xs : Nat → Int32} {Q : State → Prop} {x0 y0 : Nat} {x r : Nat → Nat} (hx : p.tables.exec = Jvm.exec) (hb : c.code = code) (hml : c.maxLocals = 4) (hown : s.vm.findClass RL = some m.cls) (hts : ∀ w ∈ BIG, w.before #[Value.ref b] s = true) (hE : ENV (dC, dI) cy s) (hF : SRF (dC, dI) s) (hT : STR (dC, dI) (fun q : Nat => s.heap.size ≤ q) s s.heap) (hX : va_X b L xs s s.heap) (hbl : b < s.heap.size) (hL : L ≤ 3072) {v : Nat → Int32} {f : Nat → Nat → Int32} {v1 : Nat → Int32} {f1 : Nat → Nat → Int32} {w1 : Int64} {g1 : Nat → Int64} {i : Int32} (hi0 : 0 ≤ i.toInt) (hi6 : i.toInt + 6 ≤ L) {H : Heap} {locs : List Loc} {ls : Array Slot} (hIv : XI v) (hIv1 : YI v1) (hCf1 : YC f1) (hRf1 : progOK (f1 4) (f1 5) (v1 9).toInt.toNat) (heq0 : FREL v f v1 f1) (hP : va_P (dC, dI) vwCl (XW cy x0 x v f ++ YW cy y0 r v1 f1 w1 g1) H) (hD : va_D (fun q : Nat => s.heap.size ≤ q) (XW cy x0 x v f ++ YW cy y0 r v1 f1 w1 g1)) (hS : va_S (fun q : Nat => s.heap.size ≤ q) s.heap H locs) (hl : lv_has ls 4 [(3, .int i), (2, .ref y0), (1, .ref x0), (0, .ref b)]) (fin : ∀ (v : Nat → Int32) (f : Nat → Nat → Int32) (v1 : Nat → Int32) (f1 : Nat → Nat → Int32) (w1 : Int64) (g1 : Nat → Int64) (H : Heap) (locs : List Loc) (ls : Array Slot), XI v → YI v1 → YC f1 → progOK (f1 4) (f1 5) (v1 9).toInt.toNat → FREL v f v1 f1 → va_P (dC, dI) vwCl (XW cy x0 x v f ++ YW cy y0 r v1 f1 w1 g1) H → va_D (fun q : Nat => s.heap.size ≤ q) (XW cy x0 x v f ++ YW cy y0 r v1 f1 w1 g1) → va_S (fun q : Nat => s.heap.size ≤ q) s.heap H locs → lv_has ls 4 [(3, .int i), (2, .ref y0), (1, .ref x0), (0, .ref b)] → W p l e room_1 s m #[Value.ref b] below meth c H locs 81 11738 Q (F0 m 1413 ls [])) : W p l e room_1 s m #[Value.ref b] below meth c H locs 81 11738 Q (F0 m 993 ls []) := by
  have hA : ∀ q : Nat, s.heap.size ≤ q → (fun q : Nat => s.heap.size ≤ q) q := fun _ h => h
  have hbA : ¬ (fun q : Nat => s.heap.size ≤ q) b := Nat.not_le.mpr hbl
  refine lv_aload_n hx hb dL_law_993 rfl (lv_at hl 2 rfl) ?_
  refine caVi (n := 0) (wr := YW cy y0 r v1 f1 w1 g1) (rest := []) hx hb hml hown hts hE hP hD hS hA (sX_X10_rags_1 l dC dI cy x0 x  v f hIv) k_1159 k_1160 k_1161 k_101 k_1162 hd_yX10_rags ⟨Nat.le_of_ble_eq_true rfl, Nat.le_of_ble_eq_true rfl⟩ [0, 1, 2, 3, 4, 5, 6, 7, 8, 9, 10, 11, 12, 13, 14, 15, 16, 17, 18, 19, 20, 21, 22, 23, 24, 25, 26, 27, 28, 29, 30, 31, 32, 33, 34, 35, 36, 37, 38, 39, 40, 41] [42, 43, 44, 45, 46, 47, 48, 49, 50, 51, 52, 53, 54, 55, 56, 57, 58, 59, 60, 61, 62, 63, 64, 65, 66, 67, 68, 69, 70, 71, 72, 73, 74, 75, 76, 77, 78, 79, 80] (lx1 cy x0 y0 x r v f v1 f1 w1 g1) (lx2 cy x0 y0 x r v f v1 f1 w1 g1) (lx3 cy x0 y0 x r v f v1 f1 w1 g1) lx4 lx5 lx6 0 10 rfl rfl rfl hl.1 rfl (Nat.le_of_ble_eq_true rfl) dL_law_994 ⟨Nat.le_of_ble_eq_true rfl, Nat.le_of_ble_eq_true rfl⟩ (fun r1 u H locs hw hP hD hS => ?_)
  obtain ⟨v2, f3⟩ := u
  obtain ⟨hVx, hFx, hIv2, hk0x, hk1x, hk7x, hk8x, hk9x, hk10x, hk31x, hk32x⟩ := hw
  have hP : va_P (dC, dI) vwCl (YW cy y0 r v1 f1 w1 g1 ++ XW cy x0 x v2 f3) H := hP
  have hD : va_D (fun q : Nat => s.heap.size ≤ q) (YW cy y0 r v1 f1 w1 g1 ++ XW cy x0 x v2 f3) := hD
  refine lv_pop hx hb dL_law_997 rfl ?_
  refine lv_aload_n hx hb dL_law_998 rfl (lv_at hl 1 rfl) ?_
  refine caVi (n := 0) (wr := XW cy x0 x v2 f3) (rest := []) hx hb hml hown hts hE hP hD hS hA (sY_X11_rags_1 l dC dI cy y0 r  v1 f1 w1 g1 hIv1 hCf1 hRf1) k_1964 k_1965 k_1966 k_114 k_1967 hd_yX11_rags ⟨Nat.le_of_ble_eq_true rfl, Nat.le_of_ble_eq_true rfl⟩ [0, 1, 2, 3, 4, 5, 6, 7, 8, 9, 10, 11, 12, 13, 14, 15, 16, 17, 18, 19, 20, 21, 22, 23, 24, 25, 26, 27, 28, 29, 30, 31, 32, 33, 34, 35, 36, 37, 38] [39, 40, 41, 42, 43, 44, 45, 46, 47, 48, 49, 50, 51, 52, 53, 54, 55, 56, 57, 58, 59, 60, 61, 62, 63, 64, 65, 66, 67, 68, 69, 70, 71, 72, 73, 74, 75, 76, 77, 78, 79, 80] (ly1 cy x0 y0 x r v2 f3 v1 f1 w1 g1) (ly2 cy x0 y0 x r v2 f3 v1 f1 w1 g1) (ly3 cy x0 y0 x r v2 f3 v1 f1 w1 g1) ly4 ly5 ly6 0 11 rfl rfl rfl hl.1 rfl (Nat.le_of_ble_eq_true rfl) dL_law_999 ⟨Nat.le_of_ble_eq_true rfl, Nat.le_of_ble_eq_true rfl⟩ (fun r4 u H locs hw hP hD hS => ?_)
  obtain ⟨v5, f6, w7, g8⟩ := u
  obtain ⟨hVy, hFy, hIv5, hCf6, hRf6, hk0y, hk1y, hk2y, hk3y, hk4y, hk5y, hk8y, hk9y, hk10y, hk13y, hk14y, hk15y, hk17y, hk18y, hk24y, hk25y, hk35y, hk36y, hk38y, hk39y⟩ := hw
  have hP : va_P (dC, dI) vwCl (XW cy x0 x v2 f3 ++ YW cy y0 r v5 f6 w7 g8) H := hP
  have hD : va_D (fun q : Nat => s.heap.size ≤ q) (XW cy x0 x v2 f3 ++ YW cy y0 r v5 f6 w7 g8) := hD
  refine lv_pop hx hb dL_law_1002 rfl ?_
  refine lv_goto (tgt := 1413) hx hb dL_law_1003 (by decide) ?_
  exact fin v2 f3 v5 f6 w7 g8 _ _ _ hIv2 hIv5 hCf6 hRf6 (FREL.keep heq0 (KV.use hVx rfl) (KF.use hFx rfl) (KV.use hVy rfl) (KF.use hFy rfl)) hP hD hS hl
set_option maxHeartbeats 4000000 in
set_option maxRecDepth 100000 in
theorem law_30 {p : Program} {l : Launch} {e : Env} {s : State} {m : MethodId} {below : List Frame} {meth : Method} {c : Code} {dC : Nat → ClassId} {dI : Nat → Nat → Nat} {cy : Nat → ClassId} {b L : Nat} {xs : Nat → Int32} {Q : State → Prop} {x0 y0 : Nat} {x r : Nat → Nat} (hx : p.tables.exec = Jvm.exec) (hb : c.code = code) (hml : c.maxLocals = 4) (hown : s.vm.findClass RL = some m.cls) (hts : ∀ w ∈ BIG, w.before #[Value.ref b] s = true) (hE : ENV (dC, dI) cy s) (hF : SRF (dC, dI) s) (hT : STR (dC, dI) (fun q : Nat => s.heap.size ≤ q) s s.heap) (hX : va_X b L xs s s.heap) (hbl : b < s.heap.size) (hL : L ≤ 3072) {v : Nat → Int32} {f : Nat → Nat → Int32} {v1 : Nat → Int32} {f1 : Nat → Nat → Int32} {w1 : Int64} {g1 : Nat → Int64} {i : Int32} (hi0 : 0 ≤ i.toInt) (hi6 : i.toInt + 6 ≤ L) {H : Heap} {locs : List Loc} {ls : Array Slot} (hIv : XI v) (hIv1 : YI v1) (hCf1 : YC f1) (hRf1 : progOK (f1 4) (f1 5) (v1 9).toInt.toNat) (heq0 : FREL v f v1 f1) (hP : va_P (dC, dI) vwCl (XW cy x0 x v f ++ YW cy y0 r v1 f1 w1 g1) H) (hD : va_D (fun q : Nat => s.heap.size ≤ q) (XW cy x0 x v f ++ YW cy y0 r v1 f1 w1 g1)) (hS : va_S (fun q : Nat => s.heap.size ≤ q) s.heap H locs) (hl : lv_has ls 4 [(3, .int i), (2, .ref y0), (1, .ref x0), (0, .ref b)]) (fin : ∀ (v : Nat → Int32) (f : Nat → Nat → Int32) (v1 : Nat → Int32) (f1 : Nat → Nat → Int32) (w1 : Int64) (g1 : Nat → Int64) (H : Heap) (locs : List Loc) (ls : Array Slot), XI v → YI v1 → YC f1 → progOK (f1 4) (f1 5) (v1 9).toInt.toNat → FREL v f v1 f1 → va_P (dC, dI) vwCl (XW cy x0 x v f ++ YW cy y0 r v1 f1 w1 g1) H → va_D (fun q : Nat => s.heap.size ≤ q) (XW cy x0 x v f ++ YW cy y0 r v1 f1 w1 g1) → va_S (fun q : Nat => s.heap.size ≤ q) s.heap H locs → lv_has ls 4 [(3, .int i), (2, .ref y0), (1, .ref x0), (0, .ref b)] → W p l e room_1 s m #[Value.ref b] below meth c H locs 81 11738 Q (F0 m 1413 ls [])) : W p l e room_1 s m #[Value.ref b] below meth c H locs 81 11738 Q (F0 m 1006 ls []) := by
  have hA : ∀ q : Nat, s.heap.size ≤ q → (fun q : Nat => s.heap.size ≤ q) q := fun _ h => h
  have hbA : ¬ (fun q : Nat => s.heap.size ≤ q) b := Nat.not_le.mpr hbl
  refine lv_aload_n hx hb dL_law_1006 rfl (lv_at hl 2 rfl) ?_
  refine caVi (n := 0) (wr := YW cy y0 r v1 f1 w1 g1) (rest := []) hx hb hml hown hts hE hP hD hS hA (sX_X10_naked_1 l dC dI cy x0 x  v f hIv) k_1167 k_1168 k_1169 k_101 k_1170 hd_yX10_naked ⟨Nat.le_of_ble_eq_true rfl, Nat.le_of_ble_eq_true rfl⟩ [0, 1, 2, 3, 4, 5, 6, 7, 8, 9, 10, 11, 12, 13, 14, 15, 16, 17, 18, 19, 20, 21, 22, 23, 24, 25, 26, 27, 28, 29, 30, 31, 32, 33, 34, 35, 36, 37, 38, 39, 40, 41] [42, 43, 44, 45, 46, 47, 48, 49, 50, 51, 52, 53, 54, 55, 56, 57, 58, 59, 60, 61, 62, 63, 64, 65, 66, 67, 68, 69, 70, 71, 72, 73, 74, 75, 76, 77, 78, 79, 80] (lx1 cy x0 y0 x r v f v1 f1 w1 g1) (lx2 cy x0 y0 x r v f v1 f1 w1 g1) (lx3 cy x0 y0 x r v f v1 f1 w1 g1) lx4 lx5 lx6 0 10 rfl rfl rfl hl.1 rfl (Nat.le_of_ble_eq_true rfl) dL_law_1007 ⟨Nat.le_of_ble_eq_true rfl, Nat.le_of_ble_eq_true rfl⟩ (fun r1 u H locs hw hP hD hS => ?_)
  obtain ⟨v2, f3⟩ := u
  obtain ⟨hVx, hFx, hIv2, hk0x, hk1x, hk7x, hk8x, hk9x, hk10x, hk31x, hk32x⟩ := hw
  have hP : va_P (dC, dI) vwCl (YW cy y0 r v1 f1 w1 g1 ++ XW cy x0 x v2 f3) H := hP
  have hD : va_D (fun q : Nat => s.heap.size ≤ q) (YW cy y0 r v1 f1 w1 g1 ++ XW cy x0 x v2 f3) := hD
  refine lv_pop hx hb dL_law_1010 rfl ?_
  refine lv_aload_n hx hb dL_law_1011 rfl (lv_at hl 1 rfl) ?_
  refine caVi (n := 0) (wr := XW cy x0 x v2 f3) (rest := []) hx hb hml hown hts hE hP hD hS hA (sY_X11_naked_1 l dC dI cy y0 r  v1 f1 w1 g1 hIv1 hCf1 hRf1) k_1972 k_1973 k_1974 k_114 k_1975 hd_yX11_naked ⟨Nat.le_of_ble_eq_true rfl, Nat.le_of_ble_eq_true rfl⟩ [0, 1, 2, 3, 4, 5, 6, 7, 8, 9, 10, 11, 12, 13, 14, 15, 16, 17, 18, 19, 20, 21, 22, 23, 24, 25, 26, 27, 28, 29, 30, 31, 32, 33, 34, 35, 36, 37, 38] [39, 40, 41, 42, 43, 44, 45, 46, 47, 48, 49, 50, 51, 52, 53, 54, 55, 56, 57, 58, 59, 60, 61, 62, 63, 64, 65, 66, 67, 68, 69, 70, 71, 72, 73, 74, 75, 76, 77, 78, 79, 80] (ly1 cy x0 y0 x r v2 f3 v1 f1 w1 g1) (ly2 cy x0 y0 x r v2 f3 v1 f1 w1 g1) (ly3 cy x0 y0 x r v2 f3 v1 f1 w1 g1) ly4 ly5 ly6 0 11 rfl rfl rfl hl.1 rfl (Nat.le_of_ble_eq_true rfl) dL_law_1012 ⟨Nat.le_of_ble_eq_true rfl, Nat.le_of_ble_eq_true rfl⟩ (fun r4 u H locs hw hP hD hS => ?_)
  obtain ⟨v5, f6, w7, g8⟩ := u
  obtain ⟨hVy, hFy, hIv5, hCf6, hRf6, hk0y, hk1y, hk2y, hk3y, hk4y, hk5y, hk8y, hk9y, hk10y, hk13y, hk14y, hk15y, hk17y, hk18y, hk24y, hk25y, hk35y, hk36y, hk38y, hk39y⟩ := hw
  have hP : va_P (dC, dI) vwCl (XW cy x0 x v2 f3 ++ YW cy y0 r v5 f6 w7 g8) H := hP
  have hD : va_D (fun q : Nat => s.heap.size ≤ q) (XW cy x0 x v2 f3 ++ YW cy y0 r v5 f6 w7 g8) := hD
  refine lv_pop hx hb dL_law_1015 rfl ?_
  refine lv_goto (tgt := 1413) hx hb dL_law_1016 (by decide) ?_
  exact fin v2 f3 v5 f6 w7 g8 _ _ _ hIv2 hIv5 hCf6 hRf6 (FREL.keep heq0 (KV.use hVx rfl) (KF.use hFx rfl) (KV.use hVy rfl) (KF.use hFy rfl)) hP hD hS hl
set_option maxHeartbeats 4000000 in
set_option maxRecDepth 100000 in
theorem law_31 {p : Program} {l : Launch} {e : Env} {s : State} {m : MethodId} {below : List Frame} {meth : Method} {c : Code} {dC : Nat → ClassId} {dI : Nat → Nat → Nat} {cy : Nat → ClassId} {b L : Nat} {xs : Nat → Int32} {Q : State → Prop} {x0 y0 : Nat} {x r : Nat → Nat} (hx : p.tables.exec = Jvm.exec) (hb : c.code = code) (hml : c.maxLocals = 4) (hown : s.vm.findClass RL = some m.cls) (hts : ∀ w ∈ BIG, w.before #[Value.ref b] s = true) (hE : ENV (dC, dI) cy s) (hF : SRF (dC, dI) s) (hT : STR (dC, dI) (fun q : Nat => s.heap.size ≤ q) s s.heap) (hX : va_X b L xs s s.heap) (hbl : b < s.heap.size) (hL : L ≤ 3072) {v : Nat → Int32} {f : Nat → Nat → Int32} {v1 : Nat → Int32} {f1 : Nat → Nat → Int32} {w1 : Int64} {g1 : Nat → Int64} {i : Int32} (hi0 : 0 ≤ i.toInt) (hi6 : i.toInt + 6 ≤ L) {H : Heap} {locs : List Loc} {ls : Array Slot} (hIv : XI v) (hIv1 : YI v1) (hCf1 : YC f1) (hRf1 : progOK (f1 4) (f1 5) (v1 9).toInt.toNat) (heq0 : FREL v f v1 f1) (hP : va_P (dC, dI) vwCl (XW cy x0 x v f ++ YW cy y0 r v1 f1 w1 g1) H) (hD : va_D (fun q : Nat => s.heap.size ≤ q) (XW cy x0 x v f ++ YW cy y0 r v1 f1 w1 g1)) (hS : va_S (fun q : Nat => s.heap.size ≤ q) s.heap H locs) (hl : lv_has ls 4 [(3, .int i), (2, .ref y0), (1, .ref x0), (0, .ref b)]) (fin : ∀ (v : Nat → Int32) (f : Nat → Nat → Int32) (v1 : Nat → Int32) (f1 : Nat → Nat → Int32) (w1 : Int64) (g1 : Nat → Int64) (H : Heap) (locs : List Loc) (ls : Array Slot), XI v → YI v1 → YC f1 → progOK (f1 4) (f1 5) (v1 9).toInt.toNat → FREL v f v1 f1 → va_P (dC, dI) vwCl (XW cy x0 x v f ++ YW cy y0 r v1 f1 w1 g1) H → va_D (fun q : Nat => s.heap.size ≤ q) (XW cy x0 x v f ++ YW cy y0 r v1 f1 w1 g1) → va_S (fun q : Nat => s.heap.size ≤ q) s.heap H locs → lv_has ls 4 [(3, .int i), (2, .ref y0), (1, .ref x0), (0, .ref b)] → W p l e room_1 s m #[Value.ref b] below meth c H locs 81 11738 Q (F0 m 1413 ls [])) : W p l e room_1 s m #[Value.ref b] below meth c H locs 81 11738 Q (F0 m 1019 ls []) := by
  have hA : ∀ q : Nat, s.heap.size ≤ q → (fun q : Nat => s.heap.size ≤ q) q := fun _ h => h
  have hbA : ¬ (fun q : Nat => s.heap.size ≤ q) b := Nat.not_le.mpr hbl
  refine lv_aload_n hx hb dL_law_1019 rfl (lv_at hl 2 rfl) ?_
  refine lv_aload_n hx hb dL_law_1020 rfl (lv_at hl 3 rfl) ?_
  refine lv_iload_n hx hb dL_law_1021 rfl (lv_at hl 0 rfl) ?_
  refine lv_iconst (v := 1) hx hb dL_law_1022 (by decide) ?_
  refine lv_iadd hx hb dL_law_1023 ?_
  refine lv_topi (fun t1 et1 => ?_)
  have rg2 := fb_rng i
  have zt1 : t1.toInt = i.toInt + 1 := by rw [et1]; exact add_i rfl (by decide) (by omega) (by omega)
  refine va_sld hx hb hX hbl hbA hS (vp_in_iff.mpr ⟨by omega, by omega⟩) dL_law_1024 ?_
  refine lv_topi (fun a3 ea3 => ?_)
  refine caVi (n := 1) (wr := YW cy y0 r v1 f1 w1 g1) (rest := []) hx hb hml hown hts hE hP hD hS hA (sX_X10_popular_1 l dC dI cy x0 x a3 v f hIv) k_1171 k_1172 k_1173 k_101 k_1174 hd_yX10_popular ⟨Nat.le_of_ble_eq_true rfl, Nat.le_of_ble_eq_true rfl⟩ [0, 1, 2, 3, 4, 5, 6, 7, 8, 9, 10, 11, 12, 13, 14, 15, 16, 17, 18, 19, 20, 21, 22, 23, 24, 25, 26, 27, 28, 29, 30, 31, 32, 33, 34, 35, 36, 37, 38, 39, 40, 41] [42, 43, 44, 45, 46, 47, 48, 49, 50, 51, 52, 53, 54, 55, 56, 57, 58, 59, 60, 61, 62, 63, 64, 65, 66, 67, 68, 69, 70, 71, 72, 73, 74, 75, 76, 77, 78, 79, 80] (lx1 cy x0 y0 x r v f v1 f1 w1 g1) (lx2 cy x0 y0 x r v f v1 f1 w1 g1) (lx3 cy x0 y0 x r v f v1 f1 w1 g1) lx4 lx5 lx6 0 10 rfl rfl rfl hl.1 rfl (Nat.le_of_ble_eq_true rfl) dL_law_1025 ⟨Nat.le_of_ble_eq_true rfl, Nat.le_of_ble_eq_true rfl⟩ (fun r4 u H locs hw hP hD hS => ?_)
  obtain ⟨v5, f6⟩ := u
  obtain ⟨hVx, hFx, hIv5, hk0x, hk1x, hk7x, hk8x, hk9x, hk10x, hk31x, hk32x⟩ := hw
  have hP : va_P (dC, dI) vwCl (YW cy y0 r v1 f1 w1 g1 ++ XW cy x0 x v5 f6) H := hP
  have hD : va_D (fun q : Nat => s.heap.size ≤ q) (YW cy y0 r v1 f1 w1 g1 ++ XW cy x0 x v5 f6) := hD
  refine lv_pop hx hb dL_law_1028 rfl ?_
  refine lv_aload_n hx hb dL_law_1029 rfl (lv_at hl 1 rfl) ?_
  refine lv_aload_n hx hb dL_law_1030 rfl (lv_at hl 3 rfl) ?_
  refine lv_iload_n hx hb dL_law_1031 rfl (lv_at hl 0 rfl) ?_
  refine lv_iconst (v := 1) hx hb dL_law_1032 (by decide) ?_
  refine lv_iadd hx hb dL_law_1033 ?_
  refine tI (y := t1) et1.symm ?_
  refine va_sld hx hb hX hbl hbA hS (vp_in_iff.mpr ⟨by omega, by omega⟩) dL_law_1034 ?_
  refine tI (y := a3) ea3.symm ?_
  refine caVi (n := 1) (wr := XW cy x0 x v5 f6) (rest := []) hx hb hml hown hts hE hP hD hS hA (sY_X11_popular_1 l dC dI cy y0 r a3 v1 f1 w1 g1 hIv1 hCf1 hRf1) k_1976 k_1977 k_1978 k_114 k_1979 hd_yX11_popular ⟨Nat.le_of_ble_eq_true rfl, Nat.le_of_ble_eq_true rfl⟩ [0, 1, 2, 3, 4, 5, 6, 7, 8, 9, 10, 11, 12, 13, 14, 15, 16, 17, 18, 19, 20, 21, 22, 23, 24, 25, 26, 27, 28, 29, 30, 31, 32, 33, 34, 35, 36, 37, 38] [39, 40, 41, 42, 43, 44, 45, 46, 47, 48, 49, 50, 51, 52, 53, 54, 55, 56, 57, 58, 59, 60, 61, 62, 63, 64, 65, 66, 67, 68, 69, 70, 71, 72, 73, 74, 75, 76, 77, 78, 79, 80] (ly1 cy x0 y0 x r v5 f6 v1 f1 w1 g1) (ly2 cy x0 y0 x r v5 f6 v1 f1 w1 g1) (ly3 cy x0 y0 x r v5 f6 v1 f1 w1 g1) ly4 ly5 ly6 0 11 rfl rfl rfl hl.1 rfl (Nat.le_of_ble_eq_true rfl) dL_law_1035 ⟨Nat.le_of_ble_eq_true rfl, Nat.le_of_ble_eq_true rfl⟩ (fun r7 u H locs hw hP hD hS => ?_)
  obtain ⟨v8, f9, w10, g11⟩ := u
  obtain ⟨hVy, hFy, hIv8, hCf9, hRf9, hk0y, hk1y, hk2y, hk3y, hk4y, hk5y, hk8y, hk9y, hk10y, hk13y, hk14y, hk15y, hk17y, hk18y, hk24y, hk25y, hk35y, hk36y, hk38y, hk39y⟩ := hw
  have hP : va_P (dC, dI) vwCl (XW cy x0 x v5 f6 ++ YW cy y0 r v8 f9 w10 g11) H := hP
  have hD : va_D (fun q : Nat => s.heap.size ≤ q) (XW cy x0 x v5 f6 ++ YW cy y0 r v8 f9 w10 g11) := hD
  refine lv_pop hx hb dL_law_1038 rfl ?_
  refine lv_goto (tgt := 1413) hx hb dL_law_1039 (by decide) ?_
  exact fin v5 f6 v8 f9 w10 g11 _ _ _ hIv5 hIv8 hCf9 hRf9 (FREL.keep heq0 (KV.use hVx rfl) (KF.use hFx rfl) (KV.use hVy rfl) (KF.use hFy rfl)) hP hD hS hl
set_option maxHeartbeats 4000000 in
set_option maxRecDepth 100000 in
theorem law_32 {p : Program} {l : Launch} {e : Env} {s : State} {m : MethodId} {below : List Frame} {meth : Method} {c : Code} {dC : Nat → ClassId} {dI : Nat → Nat → Nat} {cy : Nat → ClassId} {b L : Nat} {xs : Nat → Int32} {Q : State → Prop} {x0 y0 : Nat} {x r : Nat → Nat} (hx : p.tables.exec = Jvm.exec) (hb : c.code = code) (hml : c.maxLocals = 4) (hown : s.vm.findClass RL = some m.cls) (hts : ∀ w ∈ BIG, w.before #[Value.ref b] s = true) (hE : ENV (dC, dI) cy s) (hF : SRF (dC, dI) s) (hT : STR (dC, dI) (fun q : Nat => s.heap.size ≤ q) s s.heap) (hX : va_X b L xs s s.heap) (hbl : b < s.heap.size) (hL : L ≤ 3072) {v : Nat → Int32} {f : Nat → Nat → Int32} {v1 : Nat → Int32} {f1 : Nat → Nat → Int32} {w1 : Int64} {g1 : Nat → Int64} {i : Int32} (hi0 : 0 ≤ i.toInt) (hi6 : i.toInt + 6 ≤ L) {H : Heap} {locs : List Loc} {ls : Array Slot} (hIv : XI v) (hIv1 : YI v1) (hCf1 : YC f1) (hRf1 : progOK (f1 4) (f1 5) (v1 9).toInt.toNat) (heq0 : FREL v f v1 f1) (hP : va_P (dC, dI) vwCl (XW cy x0 x v f ++ YW cy y0 r v1 f1 w1 g1) H) (hD : va_D (fun q : Nat => s.heap.size ≤ q) (XW cy x0 x v f ++ YW cy y0 r v1 f1 w1 g1)) (hS : va_S (fun q : Nat => s.heap.size ≤ q) s.heap H locs) (hl : lv_has ls 4 [(3, .int i), (2, .ref y0), (1, .ref x0), (0, .ref b)]) (fin : ∀ (v : Nat → Int32) (f : Nat → Nat → Int32) (v1 : Nat → Int32) (f1 : Nat → Nat → Int32) (w1 : Int64) (g1 : Nat → Int64) (H : Heap) (locs : List Loc) (ls : Array Slot), XI v → YI v1 → YC f1 → progOK (f1 4) (f1 5) (v1 9).toInt.toNat → FREL v f v1 f1 → va_P (dC, dI) vwCl (XW cy x0 x v f ++ YW cy y0 r v1 f1 w1 g1) H → va_D (fun q : Nat => s.heap.size ≤ q) (XW cy x0 x v f ++ YW cy y0 r v1 f1 w1 g1) → va_S (fun q : Nat => s.heap.size ≤ q) s.heap H locs → lv_has ls 4 [(3, .int i), (2, .ref y0), (1, .ref x0), (0, .ref b)] → W p l e room_1 s m #[Value.ref b] below meth c H locs 81 11738 Q (F0 m 1413 ls [])) : W p l e room_1 s m #[Value.ref b] below meth c H locs 81 11738 Q (F0 m 1042 ls []) := by
  have hA : ∀ q : Nat, s.heap.size ≤ q → (fun q : Nat => s.heap.size ≤ q) q := fun _ h => h
  have hbA : ¬ (fun q : Nat => s.heap.size ≤ q) b := Nat.not_le.mpr hbl
  refine lv_aload_n hx hb dL_law_1042 rfl (lv_at hl 2 rfl) ?_
  refine lv_aload_n hx hb dL_law_1043 rfl (lv_at hl 3 rfl) ?_
  refine lv_iload_n hx hb dL_law_1044 rfl (lv_at hl 0 rfl) ?_
  refine lv_iconst (v := 1) hx hb dL_law_1045 (by decide) ?_
  refine lv_iadd hx hb dL_law_1046 ?_
  refine lv_topi (fun t1 et1 => ?_)
  have rg2 := fb_rng i
  have zt1 : t1.toInt = i.toInt + 1 := by rw [et1]; exact add_i rfl (by decide) (by omega) (by omega)
  refine va_sld hx hb hX hbl hbA hS (vp_in_iff.mpr ⟨by omega, by omega⟩) dL_law_1047 ?_
  refine lv_topi (fun a3 ea3 => ?_)
  refine caVi (n := 1) (wr := YW cy y0 r v1 f1 w1 g1) (rest := []) hx hb hml hown hts hE hP hD hS hA (sX_X10_law_1 l dC dI cy x0 x a3 v f hIv) k_1175 k_1176 k_1177 k_101 k_1178 hd_yX10_law ⟨Nat.le_of_ble_eq_true rfl, Nat.le_of_ble_eq_true rfl⟩ [0, 1, 2, 3, 4, 5, 6, 7, 8, 9, 10, 11, 12, 13, 14, 15, 16, 17, 18, 19, 20, 21, 22, 23, 24, 25, 26, 27, 28, 29, 30, 31, 32, 33, 34, 35, 36, 37, 38, 39, 40, 41] [42, 43, 44, 45, 46, 47, 48, 49, 50, 51, 52, 53, 54, 55, 56, 57, 58, 59, 60, 61, 62, 63, 64, 65, 66, 67, 68, 69, 70, 71, 72, 73, 74, 75, 76, 77, 78, 79, 80] (lx1 cy x0 y0 x r v f v1 f1 w1 g1) (lx2 cy x0 y0 x r v f v1 f1 w1 g1) (lx3 cy x0 y0 x r v f v1 f1 w1 g1) lx4 lx5 lx6 0 10 rfl rfl rfl hl.1 rfl (Nat.le_of_ble_eq_true rfl) dL_law_1048 ⟨Nat.le_of_ble_eq_true rfl, Nat.le_of_ble_eq_true rfl⟩ (fun r4 u H locs hw hP hD hS => ?_)
  obtain ⟨v5, f6⟩ := u
  obtain ⟨hVx, hFx, hIv5, hk0x, hk1x, hk7x, hk8x, hk9x, hk10x, hk31x, hk32x⟩ := hw
  have hP : va_P (dC, dI) vwCl (YW cy y0 r v1 f1 w1 g1 ++ XW cy x0 x v5 f6) H := hP
  have hD : va_D (fun q : Nat => s.heap.size ≤ q) (YW cy y0 r v1 f1 w1 g1 ++ XW cy x0 x v5 f6) := hD
  refine lv_pop hx hb dL_law_1051 rfl ?_
  refine lv_aload_n hx hb dL_law_1052 rfl (lv_at hl 1 rfl) ?_
  refine lv_aload_n hx hb dL_law_1053 rfl (lv_at hl 3 rfl) ?_
  refine lv_iload_n hx hb dL_law_1054 rfl (lv_at hl 0 rfl) ?_
  refine lv_iconst (v := 1) hx hb dL_law_1055 (by decide) ?_
  refine lv_iadd hx hb dL_law_1056 ?_
  refine tI (y := t1) et1.symm ?_
  refine va_sld hx hb hX hbl hbA hS (vp_in_iff.mpr ⟨by omega, by omega⟩) dL_law_1057 ?_
  refine tI (y := a3) ea3.symm ?_
  refine caVi (n := 1) (wr := XW cy x0 x v5 f6) (rest := []) hx hb hml hown hts hE hP hD hS hA (sY_X11_law_1 l dC dI cy y0 r a3 v1 f1 w1 g1 hIv1 hCf1 hRf1) k_1980 k_1981 k_1982 k_114 k_1983 hd_yX11_law ⟨Nat.le_of_ble_eq_true rfl, Nat.le_of_ble_eq_true rfl⟩ [0, 1, 2, 3, 4, 5, 6, 7, 8, 9, 10, 11, 12, 13, 14, 15, 16, 17, 18, 19, 20, 21, 22, 23, 24, 25, 26, 27, 28, 29, 30, 31, 32, 33, 34, 35, 36, 37, 38] [39, 40, 41, 42, 43, 44, 45, 46, 47, 48, 49, 50, 51, 52, 53, 54, 55, 56, 57, 58, 59, 60, 61, 62, 63, 64, 65, 66, 67, 68, 69, 70, 71, 72, 73, 74, 75, 76, 77, 78, 79, 80] (ly1 cy x0 y0 x r v5 f6 v1 f1 w1 g1) (ly2 cy x0 y0 x r v5 f6 v1 f1 w1 g1) (ly3 cy x0 y0 x r v5 f6 v1 f1 w1 g1) ly4 ly5 ly6 0 11 rfl rfl rfl hl.1 rfl (Nat.le_of_ble_eq_true rfl) dL_law_1058 ⟨Nat.le_of_ble_eq_true rfl, Nat.le_of_ble_eq_true rfl⟩ (fun r7 u H locs hw hP hD hS => ?_)
  obtain ⟨v8, f9, w10, g11⟩ := u
  obtain ⟨hVy, hFy, hIv8, hCf9, hRf9, hk0y, hk1y, hk2y, hk3y, hk4y, hk5y, hk8y, hk9y, hk10y, hk13y, hk14y, hk15y, hk17y, hk18y, hk24y, hk25y, hk35y, hk36y, hk38y, hk39y⟩ := hw
  have hP : va_P (dC, dI) vwCl (XW cy x0 x v5 f6 ++ YW cy y0 r v8 f9 w10 g11) H := hP
  have hD : va_D (fun q : Nat => s.heap.size ≤ q) (XW cy x0 x v5 f6 ++ YW cy y0 r v8 f9 w10 g11) := hD
  refine lv_pop hx hb dL_law_1061 rfl ?_
  refine lv_goto (tgt := 1413) hx hb dL_law_1062 (by decide) ?_
  exact fin v5 f6 v8 f9 w10 g11 _ _ _ hIv5 hIv8 hCf9 hRf9 (FREL.keep heq0 (KV.use hVx rfl) (KF.use hFx rfl) (KV.use hVy rfl) (KF.use hFy rfl)) hP hD hS hl
set_option maxHeartbeats 4000000 in
set_option maxRecDepth 100000 in
theorem law_33 {p : Program} {l : Launch} {e : Env} {s : State} {m : MethodId} {below : List Frame} {meth : Method} {c : Code} {dC : Nat → ClassId} {dI : Nat → Nat → Nat} {cy : Nat → ClassId} {b L : Nat} {xs : Nat → Int32} {Q : State → Prop} {x0 y0 : Nat} {x r : Nat → Nat} (hx : p.tables.exec = Jvm.exec) (hb : c.code = code) (hml : c.maxLocals = 4) (hown : s.vm.findClass RL = some m.cls) (hts : ∀ w ∈ BIG, w.before #[Value.ref b] s = true) (hE : ENV (dC, dI) cy s) (hF : SRF (dC, dI) s) (hT : STR (dC, dI) (fun q : Nat => s.heap.size ≤ q) s s.heap) (hX : va_X b L xs s s.heap) (hbl : b < s.heap.size) (hL : L ≤ 3072) {v : Nat → Int32} {f : Nat → Nat → Int32} {v1 : Nat → Int32} {f1 : Nat → Nat → Int32} {w1 : Int64} {g1 : Nat → Int64} {i : Int32} (hi0 : 0 ≤ i.toInt) (hi6 : i.toInt + 6 ≤ L) {H : Heap} {locs : List Loc} {ls : Array Slot} (hIv : XI v) (hIv1 : YI v1) (hCf1 : YC f1) (hRf1 : progOK (f1 4) (f1 5) (v1 9).toInt.toNat) (heq0 : FREL v f v1 f1) (hP : va_P (dC, dI) vwCl (XW cy x0 x v f ++ YW cy y0 r v1 f1 w1 g1) H) (hD : va_D (fun q : Nat => s.heap.size ≤ q) (XW cy x0 x v f ++ YW cy y0 r v1 f1 w1 g1)) (hS : va_S (fun q : Nat => s.heap.size ≤ q) s.heap H locs) (hl : lv_has ls 4 [(3, .int i), (2, .ref y0), (1, .ref x0), (0, .ref b)]) (fin : ∀ (v : Nat → Int32) (f : Nat → Nat → Int32) (v1 : Nat → Int32) (f1 : Nat → Nat → Int32) (w1 : Int64) (g1 : Nat → Int64) (H : Heap) (locs : List Loc) (ls : Array Slot), XI v → YI v1 → YC f1 → progOK (f1 4) (f1 5) (v1 9).toInt.toNat → FREL v f v1 f1 → va_P (dC, dI) vwCl (XW cy x0 x v f ++ YW cy y0 r v1 f1 w1 g1) H → va_D (fun q : Nat => s.heap.size ≤ q) (XW cy x0 x v f ++ YW cy y0 r v1 f1 w1 g1) → va_S (fun q : Nat => s.heap.size ≤ q) s.heap H locs → lv_has ls 4 [(3, .int i), (2, .ref y0), (1, .ref x0), (0, .ref b)] → W p l e room_1 s m #[Value.ref b] below meth c H locs 81 11738 Q (F0 m 1413 ls [])) : W p l e room_1 s m #[Value.ref b] below meth c H locs 81 11738 Q (F0 m 1065 ls []) := by
  have hA : ∀ q : Nat, s.heap.size ≤ q → (fun q : Nat => s.heap.size ≤ q) q := fun _ h => h
  have hbA : ¬ (fun q : Nat => s.heap.size ≤ q) b := Nat.not_le.mpr hbl
  refine lv_aload_n hx hb dL_law_1065 rfl (lv_at hl 2 rfl) ?_
  refine caVi (n := 0) (wr := YW cy y0 r v1 f1 w1 g1) (rest := []) hx hb hml hown hts hE hP hD hS hA (sX_X10_ease_1 l dC dI cy x0 x  v f hIv) k_1184 k_1185 k_1186 k_101 k_1187 hd_yX10_ease ⟨Nat.le_of_ble_eq_true rfl, Nat.le_of_ble_eq_true rfl⟩ [0, 1, 2, 3, 4, 5, 6, 7, 8, 9, 10, 11, 12, 13, 14, 15, 16, 17, 18, 19, 20, 21, 22, 23, 24, 25, 26, 27, 28, 29, 30, 31, 32, 33, 34, 35, 36, 37, 38, 39, 40, 41] [42, 43, 44, 45, 46, 47, 48, 49, 50, 51, 52, 53, 54, 55, 56, 57, 58, 59, 60, 61, 62, 63, 64, 65, 66, 67, 68, 69, 70, 71, 72, 73, 74, 75, 76, 77, 78, 79, 80] (lx1 cy x0 y0 x r v f v1 f1 w1 g1) (lx2 cy x0 y0 x r v f v1 f1 w1 g1) (lx3 cy x0 y0 x r v f v1 f1 w1 g1) lx4 lx5 lx6 0 10 rfl rfl rfl hl.1 rfl (Nat.le_of_ble_eq_true rfl) dL_law_1066 ⟨Nat.le_of_ble_eq_true rfl, Nat.le_of_ble_eq_true rfl⟩ (fun r1 u H locs hw hP hD hS => ?_)
  obtain ⟨v2, f3⟩ := u
  obtain ⟨hVx, hFx, hIv2, hk0x, hk1x, hk7x, hk8x, hk9x, hk10x, hk31x, hk32x⟩ := hw
  have hP : va_P (dC, dI) vwCl (YW cy y0 r v1 f1 w1 g1 ++ XW cy x0 x v2 f3) H := hP
  have hD : va_D (fun q : Nat => s.heap.size ≤ q) (YW cy y0 r v1 f1 w1 g1 ++ XW cy x0 x v2 f3) := hD
  refine lv_pop hx hb dL_law_1069 rfl ?_
  refine lv_aload_n hx hb dL_law_1070 rfl (lv_at hl 1 rfl) ?_
  refine caVi (n := 0) (wr := XW cy x0 x v2 f3) (rest := []) hx hb hml hown hts hE hP hD hS hA (sY_X11_ease_1 l dC dI cy y0 r  v1 f1 w1 g1 hIv1 hCf1 hRf1) k_1988 k_1989 k_1990 k_114 k_1991 hd_yX11_ease ⟨Nat.le_of_ble_eq_true rfl, Nat.le_of_ble_eq_true rfl⟩ [0, 1, 2, 3, 4, 5, 6, 7, 8, 9, 10, 11, 12, 13, 14, 15, 16, 17, 18, 19, 20, 21, 22, 23, 24, 25, 26, 27, 28, 29, 30, 31, 32, 33, 34, 35, 36, 37, 38] [39, 40, 41, 42, 43, 44, 45, 46, 47, 48, 49, 50, 51, 52, 53, 54, 55, 56, 57, 58, 59, 60, 61, 62, 63, 64, 65, 66, 67, 68, 69, 70, 71, 72, 73, 74, 75, 76, 77, 78, 79, 80] (ly1 cy x0 y0 x r v2 f3 v1 f1 w1 g1) (ly2 cy x0 y0 x r v2 f3 v1 f1 w1 g1) (ly3 cy x0 y0 x r v2 f3 v1 f1 w1 g1) ly4 ly5 ly6 0 11 rfl rfl rfl hl.1 rfl (Nat.le_of_ble_eq_true rfl) dL_law_1071 ⟨Nat.le_of_ble_eq_true rfl, Nat.le_of_ble_eq_true rfl⟩ (fun r4 u H locs hw hP hD hS => ?_)
  obtain ⟨v5, f6, w7, g8⟩ := u
  obtain ⟨hVy, hFy, hIv5, hCf6, hRf6, hk0y, hk1y, hk2y, hk3y, hk4y, hk5y, hk8y, hk9y, hk10y, hk13y, hk14y, hk15y, hk17y, hk18y, hk24y, hk25y, hk35y, hk36y, hk38y, hk39y⟩ := hw
  have hP : va_P (dC, dI) vwCl (XW cy x0 x v2 f3 ++ YW cy y0 r v5 f6 w7 g8) H := hP
  have hD : va_D (fun q : Nat => s.heap.size ≤ q) (XW cy x0 x v2 f3 ++ YW cy y0 r v5 f6 w7 g8) := hD
  refine lv_pop hx hb dL_law_1074 rfl ?_
  refine lv_goto (tgt := 1413) hx hb dL_law_1075 (by decide) ?_
  exact fin v2 f3 v5 f6 w7 g8 _ _ _ hIv2 hIv5 hCf6 hRf6 (FREL.keep heq0 (KV.use hVx rfl) (KF.use hFx rfl) (KV.use hVy rfl) (KF.use hFy rfl)) hP hD hS hl
set_option maxHeartbeats 4000000 in
set_option maxRecDepth 100000 in
theorem law_34 {p : Program} {l : Launch} {e : Env} {s : State} {m : MethodId} {below : List Frame} {meth : Method} {c : Code} {dC : Nat → ClassId} {dI : Nat → Nat → Nat} {cy : Nat → ClassId} {b L : Nat} {xs : Nat → Int32} {Q : State → Prop} {x0 y0 : Nat} {x r : Nat → Nat} (hx : p.tables.exec = Jvm.exec) (hb : c.code = code) (hml : c.maxLocals = 4) (hown : s.vm.findClass RL = some m.cls) (hts : ∀ w ∈ BIG, w.before #[Value.ref b] s = true) (hE : ENV (dC, dI) cy s) (hF : SRF (dC, dI) s) (hT : STR (dC, dI) (fun q : Nat => s.heap.size ≤ q) s s.heap) (hX : va_X b L xs s s.heap) (hbl : b < s.heap.size) (hL : L ≤ 3072) {v : Nat → Int32} {f : Nat → Nat → Int32} {v1 : Nat → Int32} {f1 : Nat → Nat → Int32} {w1 : Int64} {g1 : Nat → Int64} {i : Int32} (hi0 : 0 ≤ i.toInt) (hi6 : i.toInt + 6 ≤ L) {H : Heap} {locs : List Loc} {ls : Array Slot} (hIv : XI v) (hIv1 : YI v1) (hCf1 : YC f1) (hRf1 : progOK (f1 4) (f1 5) (v1 9).toInt.toNat) (heq0 : FREL v f v1 f1) (hP : va_P (dC, dI) vwCl (XW cy x0 x v f ++ YW cy y0 r v1 f1 w1 g1) H) (hD : va_D (fun q : Nat => s.heap.size ≤ q) (XW cy x0 x v f ++ YW cy y0 r v1 f1 w1 g1)) (hS : va_S (fun q : Nat => s.heap.size ≤ q) s.heap H locs) (hl : lv_has ls 4 [(3, .int i), (2, .ref y0), (1, .ref x0), (0, .ref b)]) (fin : ∀ (v : Nat → Int32) (f : Nat → Nat → Int32) (v1 : Nat → Int32) (f1 : Nat → Nat → Int32) (w1 : Int64) (g1 : Nat → Int64) (H : Heap) (locs : List Loc) (ls : Array Slot), XI v → YI v1 → YC f1 → progOK (f1 4) (f1 5) (v1 9).toInt.toNat → FREL v f v1 f1 → va_P (dC, dI) vwCl (XW cy x0 x v f ++ YW cy y0 r v1 f1 w1 g1) H → va_D (fun q : Nat => s.heap.size ≤ q) (XW cy x0 x v f ++ YW cy y0 r v1 f1 w1 g1) → va_S (fun q : Nat => s.heap.size ≤ q) s.heap H locs → lv_has ls 4 [(3, .int i), (2, .ref y0), (1, .ref x0), (0, .ref b)] → W p l e room_1 s m #[Value.ref b] below meth c H locs 81 11738 Q (F0 m 1413 ls [])) : W p l e room_1 s m #[Value.ref b] below meth c H locs 81 11738 Q (F0 m 1078 ls []) := by
  have hA : ∀ q : Nat, s.heap.size ≤ q → (fun q : Nat => s.heap.size ≤ q) q := fun _ h => h
  have hbA : ¬ (fun q : Nat => s.heap.size ≤ q) b := Nat.not_le.mpr hbl
  refine lv_aload_n hx hb dL_law_1078 rfl (lv_at hl 2 rfl) ?_
  refine caVi (n := 0) (wr := YW cy y0 r v1 f1 w1 g1) (rest := []) hx hb hml hown hts hE hP hD hS hA (sX_X10_breadth_1 0 l dC dI cy x0 x  v f hIv) k_1192 k_1193 k_1194 k_101 k_1195 hd_yX10_breadth ⟨Nat.le_of_ble_eq_true rfl, Nat.le_of_ble_eq_true rfl⟩ [0, 1, 2, 3, 4, 5, 6, 7, 8, 9, 10, 11, 12, 13, 14, 15, 16, 17, 18, 19, 20, 21, 22, 23, 24, 25, 26, 27, 28, 29, 30, 31, 32, 33, 34, 35, 36, 37, 38, 39, 40, 41] [42, 43, 44, 45, 46, 47, 48, 49, 50, 51, 52, 53, 54, 55, 56, 57, 58, 59, 60, 61, 62, 63, 64, 65, 66, 67, 68, 69, 70, 71, 72, 73, 74, 75, 76, 77, 78, 79, 80] (lx1 cy x0 y0 x r v f v1 f1 w1 g1) (lx2 cy x0 y0 x r v f v1 f1 w1 g1) (lx3 cy x0 y0 x r v f v1 f1 w1 g1) lx4 lx5 lx6 0 10 rfl rfl rfl hl.1 rfl (Nat.le_of_ble_eq_true rfl) dL_law_1079 ⟨Nat.le_of_ble_eq_true rfl, Nat.le_of_ble_eq_true rfl⟩ (fun r1 u H locs hw hP hD hS => ?_)
  have hGx := hw
  have hP : va_P (dC, dI) vwCl (YW cy y0 r v1 f1 w1 g1 ++ XW cy x0 x v f) H := hP
  have hD : va_D (fun q : Nat => s.heap.size ≤ q) (YW cy y0 r v1 f1 w1 g1 ++ XW cy x0 x v f) := hD
  refine lv_pop hx hb dL_law_1082 rfl ?_
  refine lv_aload_n hx hb dL_law_1083 rfl (lv_at hl 1 rfl) ?_
  refine caVi (n := 0) (wr := XW cy x0 x v f) (rest := []) hx hb hml hown hts hE hP hD hS hA (sY_X11_breadth_1 0 l dC dI cy y0 r  v1 f1 w1 g1 hIv1 hCf1 hRf1) k_1992 k_1993 k_1994 k_114 k_1995 hd_yX11_breadth ⟨Nat.le_of_ble_eq_true rfl, Nat.le_of_ble_eq_true rfl⟩ [0, 1, 2, 3, 4, 5, 6, 7, 8, 9, 10, 11, 12, 13, 14, 15, 16, 17, 18, 19, 20, 21, 22, 23, 24, 25, 26, 27, 28, 29, 30, 31, 32, 33, 34, 35, 36, 37, 38] [39, 40, 41, 42, 43, 44, 45, 46, 47, 48, 49, 50, 51, 52, 53, 54, 55, 56, 57, 58, 59, 60, 61, 62, 63, 64, 65, 66, 67, 68, 69, 70, 71, 72, 73, 74, 75, 76, 77, 78, 79, 80] (ly1 cy x0 y0 x r v f v1 f1 w1 g1) (ly2 cy x0 y0 x r v f v1 f1 w1 g1) (ly3 cy x0 y0 x r v f v1 f1 w1 g1) ly4 ly5 ly6 0 11 rfl rfl rfl hl.1 rfl (Nat.le_of_ble_eq_true rfl) dL_law_1084 ⟨Nat.le_of_ble_eq_true rfl, Nat.le_of_ble_eq_true rfl⟩ (fun r2 u H locs hw hP hD hS => ?_)
  obtain ⟨v3, f4, w5, g6⟩ := u
  obtain ⟨hGy, hVy, hFy, hIv3, hCf4, hRf4, hk0y, hk1y, hk2y, hk3y, hk4y, hk5y, hk8y, hk9y, hk10y, hk13y, hk14y, hk15y, hk17y, hk18y, hk24y, hk25y, hk35y, hk36y, hk38y, hk39y⟩ := hw
  have hP : va_P (dC, dI) vwCl (XW cy x0 x v f ++ YW cy y0 r v3 f4 w5 g6) H := hP
  have hD : va_D (fun q : Nat => s.heap.size ≤ q) (XW cy x0 x v f ++ YW cy y0 r v3 f4 w5 g6) := hD
  refine lv_pop hx hb dL_law_1087 rfl ?_
  refine lv_goto (tgt := 1413) hx hb dL_law_1088 (by decide) ?_
  exact fin v f v3 f4 w5 g6 _ _ _ hIv hIv3 hCf4 hRf4 (FREL.keep heq0 (fun _ _ => rfl) (fun _ _ => rfl) (KV.use hVy rfl) (KF.use hFy rfl)) hP hD hS hl
set_option maxHeartbeats 4000000 in
set_option maxRecDepth 100000 in
theorem law_35 {p : Program} {l : Launch} {e : Env} {s : State} {m : MethodId} {below : List Frame} {meth : Method} {c : Code} {dC : Nat → ClassId} {dI : Nat → Nat → Nat} {cy : Nat → ClassId} {b L : Nat} {xs : Nat → Int32} {Q : State → Prop} {x0 y0 : Nat} {x r : Nat → Nat} (hx : p.tables.exec = Jvm.exec) (hb : c.code = code) (hml : c.maxLocals = 4) (hown : s.vm.findClass RL = some m.cls) (hts : ∀ w ∈ BIG, w.before #[Value.ref b] s = true) (hE : ENV (dC, dI) cy s) (hF : SRF (dC, dI) s) (hT : STR (dC, dI) (fun q : Nat => s.heap.size ≤ q) s s.heap) (hX : va_X b L xs s s.heap) (hbl : b < s.heap.size) (hL : L ≤ 3072) {v : Nat → Int32} {f : Nat → Nat → Int32} {v1 : Nat → Int32} {f1 : Nat → Nat → Int32} {w1 : Int64} {g1 : Nat → Int64} {i : Int32} (hi0 : 0 ≤ i.toInt) (hi6 : i.toInt + 6 ≤ L) {H : Heap} {locs : List Loc} {ls : Array Slot} (hIv : XI v) (hIv1 : YI v1) (hCf1 : YC f1) (hRf1 : progOK (f1 4) (f1 5) (v1 9).toInt.toNat) (heq0 : FREL v f v1 f1) (hP : va_P (dC, dI) vwCl (XW cy x0 x v f ++ YW cy y0 r v1 f1 w1 g1) H) (hD : va_D (fun q : Nat => s.heap.size ≤ q) (XW cy x0 x v f ++ YW cy y0 r v1 f1 w1 g1)) (hS : va_S (fun q : Nat => s.heap.size ≤ q) s.heap H locs) (hl : lv_has ls 4 [(3, .int i), (2, .ref y0), (1, .ref x0), (0, .ref b)]) (fin : ∀ (v : Nat → Int32) (f : Nat → Nat → Int32) (v1 : Nat → Int32) (f1 : Nat → Nat → Int32) (w1 : Int64) (g1 : Nat → Int64) (H : Heap) (locs : List Loc) (ls : Array Slot), XI v → YI v1 → YC f1 → progOK (f1 4) (f1 5) (v1 9).toInt.toNat → FREL v f v1 f1 → va_P (dC, dI) vwCl (XW cy x0 x v f ++ YW cy y0 r v1 f1 w1 g1) H → va_D (fun q : Nat => s.heap.size ≤ q) (XW cy x0 x v f ++ YW cy y0 r v1 f1 w1 g1) → va_S (fun q : Nat => s.heap.size ≤ q) s.heap H locs → lv_has ls 4 [(3, .int i), (2, .ref y0), (1, .ref x0), (0, .ref b)] → W p l e room_1 s m #[Value.ref b] below meth c H locs 81 11738 Q (F0 m 1413 ls [])) : W p l e room_1 s m #[Value.ref b] below meth c H locs 81 11738 Q (F0 m 1091 ls []) := by
  have hA : ∀ q : Nat, s.heap.size ≤ q → (fun q : Nat => s.heap.size ≤ q) q := fun _ h => h
  have hbA : ¬ (fun q : Nat => s.heap.size ≤ q) b := Nat.not_le.mpr hbl
  refine lv_aload_n hx hb dL_law_1091 rfl (lv_at hl 2 rfl) ?_
  refine caVi (n := 0) (wr := YW cy y0 r v1 f1 w1 g1) (rest := []) hx hb hml hown hts hE hP hD hS hA (sX_X10_rout_1 l dC dI cy x0 x  v f hIv) k_1198 k_1199 k_1200 k_101 k_1201 hd_yX10_rout ⟨Nat.le_of_ble_eq_true rfl, Nat.le_of_ble_eq_true rfl⟩ [0, 1, 2, 3, 4, 5, 6, 7, 8, 9, 10, 11, 12, 13, 14, 15, 16, 17, 18, 19, 20, 21, 22, 23, 24, 25, 26, 27, 28, 29, 30, 31, 32, 33, 34, 35, 36, 37, 38, 39, 40, 41] [42, 43, 44, 45, 46, 47, 48, 49, 50, 51, 52, 53, 54, 55, 56, 57, 58, 59, 60, 61, 62, 63, 64, 65, 66, 67, 68, 69, 70, 71, 72, 73, 74, 75, 76, 77, 78, 79, 80] (lx1 cy x0 y0 x r v f v1 f1 w1 g1) (lx2 cy x0 y0 x r v f v1 f1 w1 g1) (lx3 cy x0 y0 x r v f v1 f1 w1 g1) lx4 lx5 lx6 0 10 rfl rfl rfl hl.1 rfl (Nat.le_of_ble_eq_true rfl) dL_law_1092 ⟨Nat.le_of_ble_eq_true rfl, Nat.le_of_ble_eq_true rfl⟩ (fun r1 u H locs hw hP hD hS => ?_)
  obtain ⟨v2, f3⟩ := u
  obtain ⟨hVx, hFx, hIv2, hk0x, hk1x, hk7x, hk8x, hk9x, hk10x, hk31x, hk32x⟩ := hw
  have hP : va_P (dC, dI) vwCl (YW cy y0 r v1 f1 w1 g1 ++ XW cy x0 x v2 f3) H := hP
  have hD : va_D (fun q : Nat => s.heap.size ≤ q) (YW cy y0 r v1 f1 w1 g1 ++ XW cy x0 x v2 f3) := hD
  refine lv_pop hx hb dL_law_1095 rfl ?_
  refine lv_aload_n hx hb dL_law_1096 rfl (lv_at hl 1 rfl) ?_
  refine caVi (n := 0) (wr := XW cy x0 x v2 f3) (rest := []) hx hb hml hown hts hE hP hD hS hA (sY_X11_rout_1 l dC dI cy y0 r  v1 f1 w1 g1 hIv1 hCf1 hRf1) k_1861 k_1862 k_1863 k_114 k_1864 hd_yX11_rout ⟨Nat.le_of_ble_eq_true rfl, Nat.le_of_ble_eq_true rfl⟩ [0, 1, 2, 3, 4, 5, 6, 7, 8, 9, 10, 11, 12, 13, 14, 15, 16, 17, 18, 19, 20, 21, 22, 23, 24, 25, 26, 27, 28, 29, 30, 31, 32, 33, 34, 35, 36, 37, 38] [39, 40, 41, 42, 43, 44, 45, 46, 47, 48, 49, 50, 51, 52, 53, 54, 55, 56, 57, 58, 59, 60, 61, 62, 63, 64, 65, 66, 67, 68, 69, 70, 71, 72, 73, 74, 75, 76, 77, 78, 79, 80] (ly1 cy x0 y0 x r v2 f3 v1 f1 w1 g1) (ly2 cy x0 y0 x r v2 f3 v1 f1 w1 g1) (ly3 cy x0 y0 x r v2 f3 v1 f1 w1 g1) ly4 ly5 ly6 0 11 rfl rfl rfl hl.1 rfl (Nat.le_of_ble_eq_true rfl) dL_law_1097 ⟨Nat.le_of_ble_eq_true rfl, Nat.le_of_ble_eq_true rfl⟩ (fun r4 u H locs hw hP hD hS => ?_)
  obtain ⟨v5, f6, w7, g8⟩ := u
  obtain ⟨hVy, hFy, hIv5, hCf6, hRf6, hk0y, hk1y, hk2y, hk3y, hk4y, hk5y, hk8y, hk9y, hk10y, hk13y, hk14y, hk15y, hk17y, hk18y, hk24y, hk25y, hk35y, hk36y, hk38y, hk39y⟩ := hw
  have hP : va_P (dC, dI) vwCl (XW cy x0 x v2 f3 ++ YW cy y0 r v5 f6 w7 g8) H := hP
  have hD : va_D (fun q : Nat => s.heap.size ≤ q) (XW cy x0 x v2 f3 ++ YW cy y0 r v5 f6 w7 g8) := hD
  refine lv_pop hx hb dL_law_1100 rfl ?_
  refine lv_goto (tgt := 1413) hx hb dL_law_1101 (by decide) ?_
  exact fin v2 f3 v5 f6 w7 g8 _ _ _ hIv2 hIv5 hCf6 hRf6 (FREL.keep heq0 (KV.use hVx rfl) (KF.use hFx rfl) (KV.use hVy rfl) (KF.use hFy rfl)) hP hD hS hl
set_option maxHeartbeats 4000000 in
set_option maxRecDepth 100000 in
theorem law_36 {p : Program} {l : Launch} {e : Env} {s : State} {m : MethodId} {below : List Frame} {meth : Method} {c : Code} {dC : Nat → ClassId} {dI : Nat → Nat → Nat} {cy : Nat → ClassId} {b L : Nat} {xs : Nat → Int32} {Q : State → Prop} {x0 y0 : Nat} {x r : Nat → Nat} (hx : p.tables.exec = Jvm.exec) (hb : c.code = code) (hml : c.maxLocals = 4) (hown : s.vm.findClass RL = some m.cls) (hts : ∀ w ∈ BIG, w.before #[Value.ref b] s = true) (hE : ENV (dC, dI) cy s) (hF : SRF (dC, dI) s) (hT : STR (dC, dI) (fun q : Nat => s.heap.size ≤ q) s s.heap) (hX : va_X b L xs s s.heap) (hbl : b < s.heap.size) (hL : L ≤ 3072) {v : Nat → Int32} {f : Nat → Nat → Int32} {v1 : Nat → Int32} {f1 : Nat → Nat → Int32} {w1 : Int64} {g1 : Nat → Int64} {i : Int32} (hi0 : 0 ≤ i.toInt) (hi6 : i.toInt + 6 ≤ L) {H : Heap} {locs : List Loc} {ls : Array Slot} (hIv : XI v) (hIv1 : YI v1) (hCf1 : YC f1) (hRf1 : progOK (f1 4) (f1 5) (v1 9).toInt.toNat) (heq0 : FREL v f v1 f1) (hP : va_P (dC, dI) vwCl (XW cy x0 x v f ++ YW cy y0 r v1 f1 w1 g1) H) (hD : va_D (fun q : Nat => s.heap.size ≤ q) (XW cy x0 x v f ++ YW cy y0 r v1 f1 w1 g1)) (hS : va_S (fun q : Nat => s.heap.size ≤ q) s.heap H locs) (hl : lv_has ls 4 [(3, .int i), (2, .ref y0), (1, .ref x0), (0, .ref b)]) (fin : ∀ (v : Nat → Int32) (f : Nat → Nat → Int32) (v1 : Nat → Int32) (f1 : Nat → Nat → Int32) (w1 : Int64) (g1 : Nat → Int64) (H : Heap) (locs : List Loc) (ls : Array Slot), XI v → YI v1 → YC f1 → progOK (f1 4) (f1 5) (v1 9).toInt.toNat → FREL v f v1 f1 → va_P (dC, dI) vwCl (XW cy x0 x v f ++ YW cy y0 r v1 f1 w1 g1) H → va_D (fun q : Nat => s.heap.size ≤ q) (XW cy x0 x v f ++ YW cy y0 r v1 f1 w1 g1) → va_S (fun q : Nat => s.heap.size ≤ q) s.heap H locs → lv_has ls 4 [(3, .int i), (2, .ref y0), (1, .ref x0), (0, .ref b)] → W p l e room_1 s m #[Value.ref b] below meth c H locs 81 11738 Q (F0 m 1413 ls [])) : W p l e room_1 s m #[Value.ref b] below meth c H locs 81 11738 Q (F0 m 1104 ls []) := by
  have hA : ∀ q : Nat, s.heap.size ≤ q → (fun q : Nat => s.heap.size ≤ q) q := fun _ h => h
  have hbA : ¬ (fun q : Nat => s.heap.size ≤ q) b := Nat.not_le.mpr hbl
  refine lv_aload_n hx hb dL_law_1104 rfl (lv_at hl 2 rfl) ?_
  refine lv_aload_n hx hb dL_law_1105 rfl (lv_at hl 3 rfl) ?_
  refine lv_iload_n hx hb dL_law_1106 rfl (lv_at hl 0 rfl) ?_
  refine lv_iconst (v := 1) hx hb dL_law_1107 (by decide) ?_
  refine lv_iadd hx hb dL_law_1108 ?_
  refine lv_topi (fun t1 et1 => ?_)
  have rg2 := fb_rng i
  have zt1 : t1.toInt = i.toInt + 1 := by rw [et1]; exact add_i rfl (by decide) (by omega) (by omega)
  refine va_sld hx hb hX hbl hbA hS (vp_in_iff.mpr ⟨by omega, by omega⟩) dL_law_1109 ?_
  refine lv_topi (fun a3 ea3 => ?_)
  refine lv_aload_n hx hb dL_law_1110 rfl (lv_at hl 3 rfl) ?_
  refine lv_iload_n hx hb dL_law_1111 rfl (lv_at hl 0 rfl) ?_
  refine lv_iconst (v := 2) hx hb dL_law_1112 (by decide) ?_
  refine lv_iadd hx hb dL_law_1113 ?_
  refine lv_topi (fun t4 et4 => ?_)
  have zt4 : t4.toInt = i.toInt + 2 := by rw [et4]; exact add_i rfl (by decide) (by omega) (by omega)
  refine va_sld hx hb hX hbl hbA hS (vp_in_iff.mpr ⟨by omega, by omega⟩) dL_law_1114 ?_
  refine lv_topi (fun a5 ea5 => ?_)
  refine caVi (n := 2) (wr := YW cy y0 r v1 f1 w1 g1) (rest := []) hx hb hml hown hts hE hP hD hS hA (sX_X10_odds_1 0 l dC dI cy x0 x a3 a5 v f hIv) k_1207 k_1208 k_1209 k_101 k_1210 hd_yX10_odds ⟨Nat.le_of_ble_eq_true rfl, Nat.le_of_ble_eq_true rfl⟩ [0, 1, 2, 3, 4, 5, 6, 7, 8, 9, 10, 11, 12, 13, 14, 15, 16, 17, 18, 19, 20, 21, 22, 23, 24, 25, 26, 27, 28, 29, 30, 31, 32, 33, 34, 35, 36, 37, 38, 39, 40, 41] [42, 43, 44, 45, 46, 47, 48, 49, 50, 51, 52, 53, 54, 55, 56, 57, 58, 59, 60, 61, 62, 63, 64, 65, 66, 67, 68, 69, 70, 71, 72, 73, 74, 75, 76, 77, 78, 79, 80] (lx1 cy x0 y0 x r v f v1 f1 w1 g1) (lx2 cy x0 y0 x r v f v1 f1 w1 g1) (lx3 cy x0 y0 x r v f v1 f1 w1 g1) lx4 lx5 lx6 0 10 rfl rfl rfl hl.1 rfl (Nat.le_of_ble_eq_true rfl) dL_law_1115 ⟨Nat.le_of_ble_eq_true rfl, Nat.le_of_ble_eq_true rfl⟩ (fun r6 u H locs hw hP hD hS => ?_)
  have hGx := hw
  have hP : va_P (dC, dI) vwCl (YW cy y0 r v1 f1 w1 g1 ++ XW cy x0 x v f) H := hP
  have hD : va_D (fun q : Nat => s.heap.size ≤ q) (YW cy y0 r v1 f1 w1 g1 ++ XW cy x0 x v f) := hD
  refine lv_pop hx hb dL_law_1118 rfl ?_
  refine lv_aload_n hx hb dL_law_1119 rfl (lv_at hl 1 rfl) ?_
  refine lv_aload_n hx hb dL_law_1120 rfl (lv_at hl 3 rfl) ?_
  refine lv_iload_n hx hb dL_law_1121 rfl (lv_at hl 0 rfl) ?_
  refine lv_iconst (v := 1) hx hb dL_law_1122 (by decide) ?_
  refine lv_iadd hx hb dL_law_1123 ?_
  refine tI (y := t1) et1.symm ?_
  refine va_sld hx hb hX hbl hbA hS (vp_in_iff.mpr ⟨by omega, by omega⟩) dL_law_1124 ?_
  refine tI (y := a3) ea3.symm ?_
  refine lv_aload_n hx hb dL_law_1125 rfl (lv_at hl 3 rfl) ?_
  refine lv_iload_n hx hb dL_law_1126 rfl (lv_at hl 0 rfl) ?_
  refine lv_iconst (v := 2) hx hb dL_law_1127 (by decide) ?_
  refine lv_iadd hx hb dL_law_1128 ?_
  refine tI (y := t4) et4.symm ?_
  refine va_sld hx hb hX hbl hbA hS (vp_in_iff.mpr ⟨by omega, by omega⟩) dL_law_1129 ?_
  refine tI (y := a5) ea5.symm ?_
  refine caVi (n := 2) (wr := XW cy x0 x v f) (rest := []) hx hb hml hown hts hE hP hD hS hA (sY_X11_odds_1 0 l dC dI cy y0 r a3 a5 v1 f1 w1 g1 hIv1 hCf1 hRf1) k_1996 k_1997 k_1998 k_114 k_1999 hd_yX11_odds ⟨Nat.le_of_ble_eq_true rfl, Nat.le_of_ble_eq_true rfl⟩ [0, 1, 2, 3, 4, 5, 6, 7, 8, 9, 10, 11, 12, 13, 14, 15, 16, 17, 18, 19, 20, 21, 22, 23, 24, 25, 26, 27, 28, 29, 30, 31, 32, 33, 34, 35, 36, 37, 38] [39, 40, 41, 42, 43, 44, 45, 46, 47, 48, 49, 50, 51, 52, 53, 54, 55, 56, 57, 58, 59, 60, 61, 62, 63, 64, 65, 66, 67, 68, 69, 70, 71, 72, 73, 74, 75, 76, 77, 78, 79, 80] (ly1 cy x0 y0 x r v f v1 f1 w1 g1) (ly2 cy x0 y0 x r v f v1 f1 w1 g1) (ly3 cy x0 y0 x r v f v1 f1 w1 g1) ly4 ly5 ly6 0 11 rfl rfl rfl hl.1 rfl (Nat.le_of_ble_eq_true rfl) dL_law_1130 ⟨Nat.le_of_ble_eq_true rfl, Nat.le_of_ble_eq_true rfl⟩ (fun r7 u H locs hw hP hD hS => ?_)
  have hGy := hw
  have hP : va_P (dC, dI) vwCl (XW cy x0 x v f ++ YW cy y0 r v1 f1 w1 g1) H := hP
  have hD : va_D (fun q : Nat => s.heap.size ≤ q) (XW cy x0 x v f ++ YW cy y0 r v1 f1 w1 g1) := hD
  refine lv_pop hx hb dL_law_1133 rfl ?_
  refine lv_goto (tgt := 1413) hx hb dL_law_1134 (by decide) ?_
  exact fin v f v1 f1 w1 g1 _ _ _ hIv hIv1 hCf1 hRf1 (FREL.keep heq0 (fun _ _ => rfl) (fun _ _ => rfl) (fun _ _ => rfl) (fun _ _ => rfl)) hP hD hS hl
set_option maxHeartbeats 4000000 in
set_option maxRecDepth 100000 in
theorem law_37 {p : Program} {l : Launch} {e : Env} {s : State} {m : MethodId} {below : List Frame} {meth : Method} {c : Code} {dC : Nat → ClassId} {dI : Nat → Nat → Nat} {cy : Nat → ClassId} {b L : Nat} {xs : Nat → Int32} {Q : State → Prop} {x0 y0 : Nat} {x r : Nat → Nat} (hx : p.tables.exec = Jvm.exec) (hb : c.code = code) (hml : c.maxLocals = 4) (hown : s.vm.findClass RL = some m.cls) (hts : ∀ w ∈ BIG, w.before #[Value.ref b] s = true) (hE : ENV (dC, dI) cy s) (hF : SRF (dC, dI) s) (hT : STR (dC, dI) (fun q : Nat => s.heap.size ≤ q) s s.heap) (hX : va_X b L xs s s.heap) (hbl : b < s.heap.size) (hL : L ≤ 3072) {v : Nat → Int32} {f : Nat → Nat → Int32} {v1 : Nat → Int32} {f1 : Nat → Nat → Int32} {w1 : Int64} {g1 : Nat → Int64} {i : Int32} (hi0 : 0 ≤ i.toInt) (hi6 : i.toInt + 6 ≤ L) {H : Heap} {locs : List Loc} {ls : Array Slot} (hIv : XI v) (hIv1 : YI v1) (hCf1 : YC f1) (hRf1 : progOK (f1 4) (f1 5) (v1 9).toInt.toNat) (heq0 : FREL v f v1 f1) (hP : va_P (dC, dI) vwCl (XW cy x0 x v f ++ YW cy y0 r v1 f1 w1 g1) H) (hD : va_D (fun q : Nat => s.heap.size ≤ q) (XW cy x0 x v f ++ YW cy y0 r v1 f1 w1 g1)) (hS : va_S (fun q : Nat => s.heap.size ≤ q) s.heap H locs) (hl : lv_has ls 4 [(3, .int i), (2, .ref y0), (1, .ref x0), (0, .ref b)]) (fin : ∀ (v : Nat → Int32) (f : Nat → Nat → Int32) (v1 : Nat → Int32) (f1 : Nat → Nat → Int32) (w1 : Int64) (g1 : Nat → Int64) (H : Heap) (locs : List Loc) (ls : Array Slot), XI v → YI v1 → YC f1 → progOK (f1 4) (f1 5) (v1 9).toInt.toNat → FREL v f v1 f1 → va_P (dC, dI) vwCl (XW cy x0 x v f ++ YW cy y0 r v1 f1 w1 g1) H → va_D (fun q : Nat => s.heap.size ≤ q) (XW cy x0 x v f ++ YW cy y0 r v1 f1 w1 g1) → va_S (fun q : Nat => s.heap.size ≤ q) s.heap H locs → lv_has ls 4 [(3, .int i), (2, .ref y0), (1, .ref x0), (0, .ref b)] → W p l e room_1 s m #[Value.ref b] below meth c H locs 81 11738 Q (F0 m 1413 ls [])) : W p l e room_1 s m #[Value.ref b] below meth c H locs 81 11738 Q (F0 m 1137 ls []) := by
  have hA : ∀ q : Nat, s.heap.size ≤ q → (fun q : Nat => s.heap.size ≤ q) q := fun _ h => h
  have hbA : ¬ (fun q : Nat => s.heap.size ≤ q) b := Nat.not_le.mpr hbl
  refine lv_aload_n hx hb dL_law_1137 rfl (lv_at hl 2 rfl) ?_
  refine lv_aload_n hx hb dL_law_1138 rfl (lv_at hl 3 rfl) ?_
  refine lv_iload_n hx hb dL_law_1139 rfl (lv_at hl 0 rfl) ?_
  refine lv_iconst (v := 1) hx hb dL_law_1140 (by decide) ?_
  refine lv_iadd hx hb dL_law_1141 ?_
  refine lv_topi (fun t1 et1 => ?_)
  have rg2 := fb_rng i
  have zt1 : t1.toInt = i.toInt + 1 := by rw [et1]; exact add_i rfl (by decide) (by omega) (by omega)
  refine va_sld hx hb hX hbl hbA hS (vp_in_iff.mpr ⟨by omega, by omega⟩) dL_law_1142 ?_
  refine lv_topi (fun a3 ea3 => ?_)
  refine caVi (n := 1) (wr := YW cy y0 r v1 f1 w1 g1) (rest := []) hx hb hml hown hts hE hP hD hS hA (sX_X10_lies_1 l dC dI cy x0 x a3 v f hIv) k_1214 k_1215 k_1216 k_101 k_1217 hd_yX10_lies ⟨Nat.le_of_ble_eq_true rfl, Nat.le_of_ble_eq_true rfl⟩ [0, 1, 2, 3, 4, 5, 6, 7, 8, 9, 10, 11, 12, 13, 14, 15, 16, 17, 18, 19, 20, 21, 22, 23, 24, 25, 26, 27, 28, 29, 30, 31, 32, 33, 34, 35, 36, 37, 38, 39, 40, 41] [42, 43, 44, 45, 46, 47, 48, 49, 50, 51, 52, 53, 54, 55, 56, 57, 58, 59, 60, 61, 62, 63, 64, 65, 66, 67, 68, 69, 70, 71, 72, 73, 74, 75, 76, 77, 78, 79, 80] (lx1 cy x0 y0 x r v f v1 f1 w1 g1) (lx2 cy x0 y0 x r v f v1 f1 w1 g1) (lx3 cy x0 y0 x r v f v1 f1 w1 g1) lx4 lx5 lx6 0 10 rfl rfl rfl hl.1 rfl (Nat.le_of_ble_eq_true rfl) dL_law_1143 ⟨Nat.le_of_ble_eq_true rfl, Nat.le_of_ble_eq_true rfl⟩ (fun r4 u H locs hw hP hD hS => ?_)
  have hP : va_P (dC, dI) vwCl (YW cy y0 r v1 f1 w1 g1 ++ XW cy x0 x v f) H := hP
  have hD : va_D (fun q : Nat => s.heap.size ≤ q) (YW cy y0 r v1 f1 w1 g1 ++ XW cy x0 x v f) := hD
  refine lv_pop hx hb dL_law_1146 rfl ?_
  refine lv_aload_n hx hb dL_law_1147 rfl (lv_at hl 1 rfl) ?_
  refine lv_aload_n hx hb dL_law_1148 rfl (lv_at hl 3 rfl) ?_
  refine lv_iload_n hx hb dL_law_1149 rfl (lv_at hl 0 rfl) ?_
  refine lv_iconst (v := 1) hx hb dL_law_1150 (by decide) ?_
  refine lv_iadd hx hb dL_law_1151 ?_
  refine tI (y := t1) et1.symm ?_
  refine va_sld hx hb hX hbl hbA hS (vp_in_iff.mpr ⟨by omega, by omega⟩) dL_law_1152 ?_
  refine tI (y := a3) ea3.symm ?_
  refine caVi (n := 1) (wr := XW cy x0 x v f) (rest := []) hx hb hml hown hts hE hP hD hS hA (sY_X11_lies_1 l dC dI cy y0 r a3 v1 f1 w1 g1 hIv1 hCf1 hRf1) k_2003 k_2004 k_2005 k_114 k_2006 hd_yX11_lies ⟨Nat.le_of_ble_eq_true rfl, Nat.le_of_ble_eq_true rfl⟩ [0, 1, 2, 3, 4, 5, 6, 7, 8, 9, 10, 11, 12, 13, 14, 15, 16, 17, 18, 19, 20, 21, 22, 23, 24, 25, 26, 27, 28, 29, 30, 31, 32, 33, 34, 35, 36, 37, 38] [39, 40, 41, 42, 43, 44, 45, 46, 47, 48, 49, 50, 51, 52, 53, 54, 55, 56, 57, 58, 59, 60, 61, 62, 63, 64, 65, 66, 67, 68, 69, 70, 71, 72, 73, 74, 75, 76, 77, 78, 79, 80] (ly1 cy x0 y0 x r v f v1 f1 w1 g1) (ly2 cy x0 y0 x r v f v1 f1 w1 g1) (ly3 cy x0 y0 x r v f v1 f1 w1 g1) ly4 ly5 ly6 0 11 rfl rfl rfl hl.1 rfl (Nat.le_of_ble_eq_true rfl) dL_law_1153 ⟨Nat.le_of_ble_eq_true rfl, Nat.le_of_ble_eq_true rfl⟩ (fun r5 u H locs hw hP hD hS => ?_)
  have hP : va_P (dC, dI) vwCl (XW cy x0 x v f ++ YW cy y0 r v1 f1 w1 g1) H := hP
  have hD : va_D (fun q : Nat => s.heap.size ≤ q) (XW cy x0 x v f ++ YW cy y0 r v1 f1 w1 g1) := hD
  refine lv_pop hx hb dL_law_1156 rfl ?_
  refine lv_goto (tgt := 1413) hx hb dL_law_1157 (by decide) ?_
  exact fin v f v1 f1 w1 g1 _ _ _ hIv hIv1 hCf1 hRf1 (FREL.keep heq0 (fun _ _ => rfl) (fun _ _ => rfl) (fun _ _ => rfl) (fun _ _ => rfl)) hP hD hS hl
set_option maxHeartbeats 4000000 in
set_option maxRecDepth 100000 in
theorem law_38 {p : Program} {l : Launch} {e : Env} {s : State} {m : MethodId} {below : List Frame} {meth : Method} {c : Code} {dC : Nat → ClassId} {dI : Nat → Nat → Nat} {cy : Nat → ClassId} {b L : Nat} {xs : Nat → Int32} {Q : State → Prop} {x0 y0 : Nat} {x r : Nat → Nat} (hx : p.tables.exec = Jvm.exec) (hb : c.code = code) (hml : c.maxLocals = 4) (hown : s.vm.findClass RL = some m.cls) (hts : ∀ w ∈ BIG, w.before #[Value.ref b] s = true) (hE : ENV (dC, dI) cy s) (hF : SRF (dC, dI) s) (hT : STR (dC, dI) (fun q : Nat => s.heap.size ≤ q) s s.heap) (hX : va_X b L xs s s.heap) (hbl : b < s.heap.size) (hL : L ≤ 3072) {v : Nat → Int32} {f : Nat → Nat → Int32} {v1 : Nat → Int32} {f1 : Nat → Nat → Int32} {w1 : Int64} {g1 : Nat → Int64} {i : Int32} (hi0 : 0 ≤ i.toInt) (hi6 : i.toInt + 6 ≤ L) {H : Heap} {locs : List Loc} {ls : Array Slot} (hIv : XI v) (hIv1 : YI v1) (hCf1 : YC f1) (hRf1 : progOK (f1 4) (f1 5) (v1 9).toInt.toNat) (heq0 : FREL v f v1 f1) (hP : va_P (dC, dI) vwCl (XW cy x0 x v f ++ YW cy y0 r v1 f1 w1 g1) H) (hD : va_D (fun q : Nat => s.heap.size ≤ q) (XW cy x0 x v f ++ YW cy y0 r v1 f1 w1 g1)) (hS : va_S (fun q : Nat => s.heap.size ≤ q) s.heap H locs) (hl : lv_has ls 4 [(3, .int i), (2, .ref y0), (1, .ref x0), (0, .ref b)]) (fin : ∀ (v : Nat → Int32) (f : Nat → Nat → Int32) (v1 : Nat → Int32) (f1 : Nat → Nat → Int32) (w1 : Int64) (g1 : Nat → Int64) (H : Heap) (locs : List Loc) (ls : Array Slot), XI v → YI v1 → YC f1 → progOK (f1 4) (f1 5) (v1 9).toInt.toNat → FREL v f v1 f1 → va_P (dC, dI) vwCl (XW cy x0 x v f ++ YW cy y0 r v1 f1 w1 g1) H → va_D (fun q : Nat => s.heap.size ≤ q) (XW cy x0 x v f ++ YW cy y0 r v1 f1 w1 g1) → va_S (fun q : Nat => s.heap.size ≤ q) s.heap H locs → lv_has ls 4 [(3, .int i), (2, .ref y0), (1, .ref x0), (0, .ref b)] → W p l e room_1 s m #[Value.ref b] below meth c H locs 81 11738 Q (F0 m 1413 ls [])) : W p l e room_1 s m #[Value.ref b] below meth c H locs 81 11738 Q (F0 m 1160 ls []) := by
  have hA : ∀ q : Nat, s.heap.size ≤ q → (fun q : Nat => s.heap.size ≤ q) q := fun _ h => h
  have hbA : ¬ (fun q : Nat => s.heap.size ≤ q) b := Nat.not_le.mpr hbl
  refine lv_aload_n hx hb dL_law_1160 rfl (lv_at hl 2 rfl) ?_
  refine lv_aload_n hx hb dL_law_1161 rfl (lv_at hl 3 rfl) ?_
  refine lv_iload_n hx hb dL_law_1162 rfl (lv_at hl 0 rfl) ?_
  refine lv_iconst (v := 1) hx hb dL_law_1163 (by decide) ?_
  refine lv_iadd hx hb dL_law_1164 ?_
  refine lv_topi (fun t1 et1 => ?_)
  have rg2 := fb_rng i
  have zt1 : t1.toInt = i.toInt + 1 := by rw [et1]; exact add_i rfl (by decide) (by omega) (by omega)
  refine va_sld hx hb hX hbl hbA hS (vp_in_iff.mpr ⟨by omega, by omega⟩) dL_law_1165 ?_
  refine lv_topi (fun a3 ea3 => ?_)
  refine lv_aload_n hx hb dL_law_1166 rfl (lv_at hl 3 rfl) ?_
  refine lv_iload_n hx hb dL_law_1167 rfl (lv_at hl 0 rfl) ?_
  refine lv_iconst (v := 2) hx hb dL_law_1168 (by decide) ?_
  refine lv_iadd hx hb dL_law_1169 ?_
  refine lv_topi (fun t4 et4 => ?_)
  have zt4 : t4.toInt = i.toInt + 2 := by rw [et4]; exact add_i rfl (by decide) (by omega) (by omega)
  refine va_sld hx hb hX hbl hbA hS (vp_in_iff.mpr ⟨by omega, by omega⟩) dL_law_1170 ?_
  refine lv_topi (fun a5 ea5 => ?_)
  refine lv_if_eq (tgt := 1178) hx hb dL_law_1171 (by decide) (fun c6 => ?_) (fun c6 => ?_)
  · skip
    have zc6 : a5.toInt = 0 := by rw [fa_eq, show (0 : Int32).toInt = 0 from by decide] at c6; exact c6
    refine lv_iconst (v := 0) hx hb dL_law_1178 (by decide) ?_
    refine caVi (n := 2) (wr := YW cy y0 r v1 f1 w1 g1) (rest := []) hx hb hml hown hts hE hP hD hS hA (sX_X10_seen_1 0 l dC dI cy x0 x a3 0 v f hIv) k_1222 k_1223 k_1224 k_101 k_1225 hd_yX10_seen ⟨Nat.le_of_ble_eq_true rfl, Nat.le_of_ble_eq_true rfl⟩ [0, 1, 2, 3, 4, 5, 6, 7, 8, 9, 10, 11, 12, 13, 14, 15, 16, 17, 18, 19, 20, 21, 22, 23, 24, 25, 26, 27, 28, 29, 30, 31, 32, 33, 34, 35, 36, 37, 38, 39, 40, 41] [42, 43, 44, 45, 46, 47, 48, 49, 50, 51, 52, 53, 54, 55, 56, 57, 58, 59, 60, 61, 62, 63, 64, 65, 66, 67, 68, 69, 70, 71, 72, 73, 74, 75, 76, 77, 78, 79, 80] (lx1 cy x0 y0 x r v f v1 f1 w1 g1) (lx2 cy x0 y0 x r v f v1 f1 w1 g1) (lx3 cy x0 y0 x r v f v1 f1 w1 g1) lx4 lx5 lx6 0 10 rfl rfl rfl hl.1 rfl (Nat.le_of_ble_eq_true rfl) dL_law_1179 ⟨Nat.le_of_ble_eq_true rfl, Nat.le_of_ble_eq_true rfl⟩ (fun r7 u H locs hw hP hD hS => ?_)
    obtain ⟨v8, f9⟩ := u
    obtain ⟨hGx, hVx, hFx, hIv8, hk0x, hk1x, hk7x, hk8x, hk9x, hk10x, hk31x, hk32x⟩ := hw
    have hP : va_P (dC, dI) vwCl (YW cy y0 r v1 f1 w1 g1 ++ XW cy x0 x v8 f9) H := hP
    have hD : va_D (fun q : Nat => s.heap.size ≤ q) (YW cy y0 r v1 f1 w1 g1 ++ XW cy x0 x v8 f9) := hD
    refine lv_pop hx hb dL_law_1182 rfl ?_
    refine lv_aload_n hx hb dL_law_1183 rfl (lv_at hl 1 rfl) ?_
    refine lv_aload_n hx hb dL_law_1184 rfl (lv_at hl 3 rfl) ?_
    refine lv_iload_n hx hb dL_law_1185 rfl (lv_at hl 0 rfl) ?_
    refine lv_iconst (v := 1) hx hb dL_law_1186 (by decide) ?_
    refine lv_iadd hx hb dL_law_1187 ?_
    refine tI (y := t1) et1.symm ?_
    refine va_sld hx hb hX hbl hbA hS (vp_in_iff.mpr ⟨by omega, by omega⟩) dL_law_1188 ?_
    refine tI (y := a3) ea3.symm ?_
    refine lv_aload_n hx hb dL_law_1189 rfl (lv_at hl 3 rfl) ?_
    refine lv_iload_n hx hb dL_law_1190 rfl (lv_at hl 0 rfl) ?_
    refine lv_iconst (v := 2) hx hb dL_law_1191 (by decide) ?_
    refine lv_iadd hx hb dL_law_1192 ?_
    refine tI (y := t4) et4.symm ?_
    refine va_sld hx hb hX hbl hbA hS (vp_in_iff.mpr ⟨by omega, by omega⟩) dL_law_1193 ?_
    refine tI (y := a5) ea5.symm ?_
    refine lv_if_eq (tgt := 1201) hx hb dL_law_1194 (by decide) (fun c10 => ?_) (fun c10 => ?_)
    · skip
      have zc10 : a5.toInt = 0 := by rw [fa_eq, show (0 : Int32).toInt = 0 from by decide] at c10; exact c10
      refine lv_iconst (v := 0) hx hb dL_law_1201 (by decide) ?_
      refine caVi (n := 2) (wr := XW cy x0 x v8 f9) (rest := []) hx hb hml hown hts hE hP hD hS hA (sY_X11_seen_1 0 l dC dI cy y0 r a3 0 v1 f1 w1 g1 hIv1 hCf1 hRf1) k_2007 k_2008 k_2009 k_114 k_2010 hd_yX11_seen ⟨Nat.le_of_ble_eq_true rfl, Nat.le_of_ble_eq_true rfl⟩ [0, 1, 2, 3, 4, 5, 6, 7, 8, 9, 10, 11, 12, 13, 14, 15, 16, 17, 18, 19, 20, 21, 22, 23, 24, 25, 26, 27, 28, 29, 30, 31, 32, 33, 34, 35, 36, 37, 38] [39, 40, 41, 42, 43, 44, 45, 46, 47, 48, 49, 50, 51, 52, 53, 54, 55, 56, 57, 58, 59, 60, 61, 62, 63, 64, 65, 66, 67, 68, 69, 70, 71, 72, 73, 74, 75, 76, 77, 78, 79, 80] (ly1 cy x0 y0 x r v8 f9 v1 f1 w1 g1) (ly2 cy x0 y0 x r v8 f9 v1 f1 w1 g1) (ly3 cy x0 y0 x r v8 f9 v1 f1 w1 g1) ly4 ly5 ly6 0 11 rfl rfl rfl hl.1 rfl (Nat.le_of_ble_eq_true rfl) dL_law_1202 ⟨Nat.le_of_ble_eq_true rfl, Nat.le_of_ble_eq_true rfl⟩ (fun r11 u H locs hw hP hD hS => ?_)
      obtain ⟨v12, f13, w14, g15⟩ := u
      obtain ⟨hGy, hVy, hFy, hIv12, hCf13, hRf13, hk0y, hk1y, hk2y, hk3y, hk4y, hk5y, hk8y, hk9y, hk10y, hk13y, hk14y, hk15y, hk17y, hk18y, hk24y, hk25y, hk35y, hk36y, hk39y⟩ := hw
      have hpr := FREL.of3 heq0 (R3.seen heq0.1 hGx hGy) (KV.use hVx rfl) (KF.use hFx rfl) (KV.use hVy rfl) (KF.use hFy rfl)
      have hP : va_P (dC, dI) vwCl (XW cy x0 x v8 f9 ++ YW cy y0 r v12 f13 w14 g15) H := hP
      have hD : va_D (fun q : Nat => s.heap.size ≤ q) (XW cy x0 x v8 f9 ++ YW cy y0 r v12 f13 w14 g15) := hD
      refine lv_pop hx hb dL_law_1205 rfl ?_
      refine lv_goto (tgt := 1413) hx hb dL_law_1206 (by decide) ?_
      exact fin v8 f9 v12 f13 w14 g15 _ _ _ hIv8 hIv12 hCf13 hRf13 hpr.2 hP hD hS hl
    · skip
      have zc10 : ¬ (a5.toInt = 0) := by rw [fa_eq, show (0 : Int32).toInt = 0 from by decide] at c10; exact c10
      refine lv_iconst (v := 1) hx hb dL_law_1197 (by decide) ?_
      refine lv_goto (tgt := 1202) hx hb dL_law_1198 (by decide) ?_
      exact (show False from by omega).elim
  · skip
    have zc6 : ¬ (a5.toInt = 0) := by rw [fa_eq, show (0 : Int32).toInt = 0 from by decide] at c6; exact c6
    refine lv_iconst (v := 1) hx hb dL_law_1174 (by decide) ?_
    refine lv_goto (tgt := 1179) hx hb dL_law_1175 (by decide) ?_
    refine caVi (n := 2) (wr := YW cy y0 r v1 f1 w1 g1) (rest := []) hx hb hml hown hts hE hP hD hS hA (sX_X10_seen_1 0 l dC dI cy x0 x a3 1 v f hIv) k_1222 k_1223 k_1224 k_101 k_1225 hd_yX10_seen ⟨Nat.le_of_ble_eq_true rfl, Nat.le_of_ble_eq_true rfl⟩ [0, 1, 2, 3, 4, 5, 6, 7, 8, 9, 10, 11, 12, 13, 14, 15, 16, 17, 18, 19, 20, 21, 22, 23, 24, 25, 26, 27, 28, 29, 30, 31, 32, 33, 34, 35, 36, 37, 38, 39, 40, 41] [42, 43, 44, 45, 46, 47, 48, 49, 50, 51, 52, 53, 54, 55, 56, 57, 58, 59, 60, 61, 62, 63, 64, 65, 66, 67, 68, 69, 70, 71, 72, 73, 74, 75, 76, 77, 78, 79, 80] (lx1 cy x0 y0 x r v f v1 f1 w1 g1) (lx2 cy x0 y0 x r v f v1 f1 w1 g1) (lx3 cy x0 y0 x r v f v1 f1 w1 g1) lx4 lx5 lx6 0 10 rfl rfl rfl hl.1 rfl (Nat.le_of_ble_eq_true rfl) dL_law_1179 ⟨Nat.le_of_ble_eq_true rfl, Nat.le_of_ble_eq_true rfl⟩ (fun r16 u H locs hw hP hD hS => ?_)
    obtain ⟨v17, f18⟩ := u
    obtain ⟨hGx, hVx, hFx, hIv17, hk0x, hk1x, hk7x, hk8x, hk9x, hk10x, hk31x, hk32x⟩ := hw
    have hP : va_P (dC, dI) vwCl (YW cy y0 r v1 f1 w1 g1 ++ XW cy x0 x v17 f18) H := hP
    have hD : va_D (fun q : Nat => s.heap.size ≤ q) (YW cy y0 r v1 f1 w1 g1 ++ XW cy x0 x v17 f18) := hD
    refine lv_pop hx hb dL_law_1182 rfl ?_
    refine lv_aload_n hx hb dL_law_1183 rfl (lv_at hl 1 rfl) ?_
    refine lv_aload_n hx hb dL_law_1184 rfl (lv_at hl 3 rfl) ?_
    refine lv_iload_n hx hb dL_law_1185 rfl (lv_at hl 0 rfl) ?_
    refine lv_iconst (v := 1) hx hb dL_law_1186 (by decide) ?_
    refine lv_iadd hx hb dL_law_1187 ?_
    refine tI (y := t1) et1.symm ?_
    refine va_sld hx hb hX hbl hbA hS (vp_in_iff.mpr ⟨by omega, by omega⟩) dL_law_1188 ?_
    refine tI (y := a3) ea3.symm ?_
    refine lv_aload_n hx hb dL_law_1189 rfl (lv_at hl 3 rfl) ?_
    refine lv_iload_n hx hb dL_law_1190 rfl (lv_at hl 0 rfl) ?_
    refine lv_iconst (v := 2) hx hb dL_law_1191 (by decide) ?_
    refine lv_iadd hx hb dL_law_1192 ?_
    refine tI (y := t4) et4.symm ?_
    refine va_sld hx hb hX hbl hbA hS (vp_in_iff.mpr ⟨by omega, by omega⟩) dL_law_1193 ?_
    refine tI (y := a5) ea5.symm ?_
    refine lv_if_eq (tgt := 1201) hx hb dL_law_1194 (by decide) (fun c19 => ?_) (fun c19 => ?_)
    · skip
      have zc19 : a5.toInt = 0 := by rw [fa_eq, show (0 : Int32).toInt = 0 from by decide] at c19; exact c19
      refine lv_iconst (v := 0) hx hb dL_law_1201 (by decide) ?_
      exact (show False from by omega).elim
    · skip
      have zc19 : ¬ (a5.toInt = 0) := by rw [fa_eq, show (0 : Int32).toInt = 0 from by decide] at c19; exact c19
      refine lv_iconst (v := 1) hx hb dL_law_1197 (by decide) ?_
      refine lv_goto (tgt := 1202) hx hb dL_law_1198 (by decide) ?_
      refine caVi (n := 2) (wr := XW cy x0 x v17 f18) (rest := []) hx hb hml hown hts hE hP hD hS hA (sY_X11_seen_1 0 l dC dI cy y0 r a3 1 v1 f1 w1 g1 hIv1 hCf1 hRf1) k_2007 k_2008 k_2009 k_114 k_2010 hd_yX11_seen ⟨Nat.le_of_ble_eq_true rfl, Nat.le_of_ble_eq_true rfl⟩ [0, 1, 2, 3, 4, 5, 6, 7, 8, 9, 10, 11, 12, 13, 14, 15, 16, 17, 18, 19, 20, 21, 22, 23, 24, 25, 26, 27, 28, 29, 30, 31, 32, 33, 34, 35, 36, 37, 38] [39, 40, 41, 42, 43, 44, 45, 46, 47, 48, 49, 50, 51, 52, 53, 54, 55, 56, 57, 58, 59, 60, 61, 62, 63, 64, 65, 66, 67, 68, 69, 70, 71, 72, 73, 74, 75, 76, 77, 78, 79, 80] (ly1 cy x0 y0 x r v17 f18 v1 f1 w1 g1) (ly2 cy x0 y0 x r v17 f18 v1 f1 w1 g1) (ly3 cy x0 y0 x r v17 f18 v1 f1 w1 g1) ly4 ly5 ly6 0 11 rfl rfl rfl hl.1 rfl (Nat.le_of_ble_eq_true rfl) dL_law_1202 ⟨Nat.le_of_ble_eq_true rfl, Nat.le_of_ble_eq_true rfl⟩ (fun r20 u H locs hw hP hD hS => ?_)
      obtain ⟨v21, f22, w23, g24⟩ := u
      obtain ⟨hGy, hVy, hFy, hIv21, hCf22, hRf22, hk0y, hk1y, hk2y, hk3y, hk4y, hk5y, hk8y, hk9y, hk10y, hk13y, hk14y, hk15y, hk17y, hk18y, hk24y, hk25y, hk35y, hk36y, hk39y⟩ := hw
      have hpr := FREL.of3 heq0 (R3.seen heq0.1 hGx hGy) (KV.use hVx rfl) (KF.use hFx rfl) (KV.use hVy rfl) (KF.use hFy rfl)
      have hP : va_P (dC, dI) vwCl (XW cy x0 x v17 f18 ++ YW cy y0 r v21 f22 w23 g24) H := hP
      have hD : va_D (fun q : Nat => s.heap.size ≤ q) (XW cy x0 x v17 f18 ++ YW cy y0 r v21 f22 w23 g24) := hD
      refine lv_pop hx hb dL_law_1205 rfl ?_
      refine lv_goto (tgt := 1413) hx hb dL_law_1206 (by decide) ?_
      exact fin v17 f18 v21 f22 w23 g24 _ _ _ hIv17 hIv21 hCf22 hRf22 hpr.2 hP hD hS hl
set_option maxHeartbeats 4000000 in
set_option maxRecDepth 100000 in
theorem law_39 {p : Program} {l : Launch} {e : Env} {s : State} {m : MethodId} {below : List Frame} {meth : Method} {c : Code} {dC : Nat → ClassId} {dI : Nat → Nat → Nat} {cy : Nat → ClassId} {b L : Nat} {xs : Nat → Int32} {Q : State → Prop} {x0 y0 : Nat} {x r : Nat → Nat} (hx : p.tables.exec = Jvm.exec) (hb : c.code = code) (hml : c.maxLocals = 4) (hown : s.vm.findClass RL = some m.cls) (hts : ∀ w ∈ BIG, w.before #[Value.ref b] s = true) (hE : ENV (dC, dI) cy s) (hF : SRF (dC, dI) s) (hT : STR (dC, dI) (fun q : Nat => s.heap.size ≤ q) s s.heap) (hX : va_X b L xs s s.heap) (hbl : b < s.heap.size) (hL : L ≤ 3072) {v : Nat → Int32} {f : Nat → Nat → Int32} {v1 : Nat → Int32} {f1 : Nat → Nat → Int32} {w1 : Int64} {g1 : Nat → Int64} {i : Int32} (hi0 : 0 ≤ i.toInt) (hi6 : i.toInt + 6 ≤ L) {H : Heap} {locs : List Loc} {ls : Array Slot} (hIv : XI v) (hIv1 : YI v1) (hCf1 : YC f1) (hRf1 : progOK (f1 4) (f1 5) (v1 9).toInt.toNat) (heq0 : FREL v f v1 f1) (hP : va_P (dC, dI) vwCl (XW cy x0 x v f ++ YW cy y0 r v1 f1 w1 g1) H) (hD : va_D (fun q : Nat => s.heap.size ≤ q) (XW cy x0 x v f ++ YW cy y0 r v1 f1 w1 g1)) (hS : va_S (fun q : Nat => s.heap.size ≤ q) s.heap H locs) (hl : lv_has ls 4 [(3, .int i), (2, .ref y0), (1, .ref x0), (0, .ref b)]) (fin : ∀ (v : Nat → Int32) (f : Nat → Nat → Int32) (v1 : Nat → Int32) (f1 : Nat → Nat → Int32) (w1 : Int64) (g1 : Nat → Int64) (H : Heap) (locs : List Loc) (ls : Array Slot), XI v → YI v1 → YC f1 → progOK (f1 4) (f1 5) (v1 9).toInt.toNat → FREL v f v1 f1 → va_P (dC, dI) vwCl (XW cy x0 x v f ++ YW cy y0 r v1 f1 w1 g1) H → va_D (fun q : Nat => s.heap.size ≤ q) (XW cy x0 x v f ++ YW cy y0 r v1 f1 w1 g1) → va_S (fun q : Nat => s.heap.size ≤ q) s.heap H locs → lv_has ls 4 [(3, .int i), (2, .ref y0), (1, .ref x0), (0, .ref b)] → W p l e room_1 s m #[Value.ref b] below meth c H locs 81 11738 Q (F0 m 1413 ls [])) : W p l e room_1 s m #[Value.ref b] below meth c H locs 81 11738 Q (F0 m 1209 ls []) := by
  have hA : ∀ q : Nat, s.heap.size ≤ q → (fun q : Nat => s.heap.size ≤ q) q := fun _ h => h
  have hbA : ¬ (fun q : Nat => s.heap.size ≤ q) b := Nat.not_le.mpr hbl
  refine lv_aload_n hx hb dL_law_1209 rfl (lv_at hl 2 rfl) ?_
  refine lv_aload_n hx hb dL_law_1210 rfl (lv_at hl 3 rfl) ?_
  refine lv_iload_n hx hb dL_law_1211 rfl (lv_at hl 0 rfl) ?_
  refine lv_iconst (v := 1) hx hb dL_law_1212 (by decide) ?_
  refine lv_iadd hx hb dL_law_1213 ?_
  refine lv_topi (fun t1 et1 => ?_)
  have rg2 := fb_rng i
  have zt1 : t1.toInt = i.toInt + 1 := by rw [et1]; exact add_i rfl (by decide) (by omega) (by omega)
  refine va_sld hx hb hX hbl hbA hS (vp_in_iff.mpr ⟨by omega, by omega⟩) dL_law_1214 ?_
  refine lv_topi (fun a3 ea3 => ?_)
  refine caVi (n := 1) (wr := YW cy y0 r v1 f1 w1 g1) (rest := []) hx hb hml hown hts hE hP hD hS hA (sX_X10_untell_1 0 l dC dI cy x0 x a3 v f hIv) k_1230 k_1231 k_1232 k_101 k_1233 hd_yX10_untell ⟨Nat.le_of_ble_eq_true rfl, Nat.le_of_ble_eq_true rfl⟩ [0, 1, 2, 3, 4, 5, 6, 7, 8, 9, 10, 11, 12, 13, 14, 15, 16, 17, 18, 19, 20, 21, 22, 23, 24, 25, 26, 27, 28, 29, 30, 31, 32, 33, 34, 35, 36, 37, 38, 39, 40, 41] [42, 43, 44, 45, 46, 47, 48, 49, 50, 51, 52, 53, 54, 55, 56, 57, 58, 59, 60, 61, 62, 63, 64, 65, 66, 67, 68, 69, 70, 71, 72, 73, 74, 75, 76, 77, 78, 79, 80] (lx1 cy x0 y0 x r v f v1 f1 w1 g1) (lx2 cy x0 y0 x r v f v1 f1 w1 g1) (lx3 cy x0 y0 x r v f v1 f1 w1 g1) lx4 lx5 lx6 0 10 rfl rfl rfl hl.1 rfl (Nat.le_of_ble_eq_true rfl) dL_law_1215 ⟨Nat.le_of_ble_eq_true rfl, Nat.le_of_ble_eq_true rfl⟩ (fun r4 u H locs hw hP hD hS => ?_)
  obtain ⟨v5, f6⟩ := u
  obtain ⟨hGx, hVx, hFx, hIv5, hk0x, hk1x, hk7x, hk8x, hk9x, hk10x, hk31x, hk32x, hz0x⟩ := hw
  have hP : va_P (dC, dI) vwCl (YW cy y0 r v1 f1 w1 g1 ++ XW cy x0 x v5 f6) H := hP
  have hD : va_D (fun q : Nat => s.heap.size ≤ q) (YW cy y0 r v1 f1 w1 g1 ++ XW cy x0 x v5 f6) := hD
  refine lv_pop hx hb dL_law_1218 rfl ?_
  refine lv_aload_n hx hb dL_law_1219 rfl (lv_at hl 1 rfl) ?_
  refine lv_aload_n hx hb dL_law_1220 rfl (lv_at hl 3 rfl) ?_
  refine lv_iload_n hx hb dL_law_1221 rfl (lv_at hl 0 rfl) ?_
  refine lv_iconst (v := 1) hx hb dL_law_1222 (by decide) ?_
  refine lv_iadd hx hb dL_law_1223 ?_
  refine tI (y := t1) et1.symm ?_
  refine va_sld hx hb hX hbl hbA hS (vp_in_iff.mpr ⟨by omega, by omega⟩) dL_law_1224 ?_
  refine tI (y := a3) ea3.symm ?_
  refine caVi (n := 1) (wr := XW cy x0 x v5 f6) (rest := []) hx hb hml hown hts hE hP hD hS hA (sY_X11_untell_1 0 l dC dI cy y0 r a3 v1 f1 w1 g1 hIv1 hCf1 hRf1) k_2011 k_2012 k_2013 k_114 k_2014 hd_yX11_untell ⟨Nat.le_of_ble_eq_true rfl, Nat.le_of_ble_eq_true rfl⟩ [0, 1, 2, 3, 4, 5, 6, 7, 8, 9, 10, 11, 12, 13, 14, 15, 16, 17, 18, 19, 20, 21, 22, 23, 24, 25, 26, 27, 28, 29, 30, 31, 32, 33, 34, 35, 36, 37, 38] [39, 40, 41, 42, 43, 44, 45, 46, 47, 48, 49, 50, 51, 52, 53, 54, 55, 56, 57, 58, 59, 60, 61, 62, 63, 64, 65, 66, 67, 68, 69, 70, 71, 72, 73, 74, 75, 76, 77, 78, 79, 80] (ly1 cy x0 y0 x r v5 f6 v1 f1 w1 g1) (ly2 cy x0 y0 x r v5 f6 v1 f1 w1 g1) (ly3 cy x0 y0 x r v5 f6 v1 f1 w1 g1) ly4 ly5 ly6 0 11 rfl rfl rfl hl.1 rfl (Nat.le_of_ble_eq_true rfl) dL_law_1225 ⟨Nat.le_of_ble_eq_true rfl, Nat.le_of_ble_eq_true rfl⟩ (fun r7 u H locs hw hP hD hS => ?_)
  obtain ⟨v8, f9, w10, g11⟩ := u
  obtain ⟨hGy, hVy, hFy, hIv8, hCf9, hRf9, hk0y, hk1y, hk2y, hk3y, hk4y, hk5y, hk8y, hk9y, hk10y, hk13y, hk14y, hk15y, hk17y, hk18y, hk24y, hk25y, hk35y, hk36y, hk38y, hk39y, hz0y⟩ := hw
  have hpr := FREL.of3 heq0 (R3.untell heq0.1 (show (0 : Int) ≤ (v 0).toInt from (XI.b hIv 0 (by decide)).1) hGx hGy) (KV.use hVx rfl) (KF.use hFx rfl) (KV.use hVy rfl) (KF.use hFy rfl)
  have hP : va_P (dC, dI) vwCl (XW cy x0 x v5 f6 ++ YW cy y0 r v8 f9 w10 g11) H := hP
  have hD : va_D (fun q : Nat => s.heap.size ≤ q) (XW cy x0 x v5 f6 ++ YW cy y0 r v8 f9 w10 g11) := hD
  refine lv_pop hx hb dL_law_1228 rfl ?_
  refine lv_goto (tgt := 1413) hx hb dL_law_1229 (by decide) ?_
  exact fin v5 f6 v8 f9 w10 g11 _ _ _ hIv5 hIv8 hCf9 hRf9 hpr.2 hP hD hS hl
set_option maxHeartbeats 4000000 in
set_option maxRecDepth 100000 in
theorem law_40 {p : Program} {l : Launch} {e : Env} {s : State} {m : MethodId} {below : List Frame} {meth : Method} {c : Code} {dC : Nat → ClassId} {dI : Nat → Nat → Nat} {cy : Nat → ClassId} {b L : Nat} {xs : Nat → Int32} {Q : State → Prop} {x0 y0 : Nat} {x r : Nat → Nat} (hx : p.tables.exec = Jvm.exec) (hb : c.code = code) (hml : c.maxLocals = 4) (hown : s.vm.findClass RL = some m.cls) (hts : ∀ w ∈ BIG, w.before #[Value.ref b] s = true) (hE : ENV (dC, dI) cy s) (hF : SRF (dC, dI) s) (hT : STR (dC, dI) (fun q : Nat => s.heap.size ≤ q) s s.heap) (hX : va_X b L xs s s.heap) (hbl : b < s.heap.size) (hL : L ≤ 3072) {v : Nat → Int32} {f : Nat → Nat → Int32} {v1 : Nat → Int32} {f1 : Nat → Nat → Int32} {w1 : Int64} {g1 : Nat → Int64} {i : Int32} (hi0 : 0 ≤ i.toInt) (hi6 : i.toInt + 6 ≤ L) {H : Heap} {locs : List Loc} {ls : Array Slot} (hIv : XI v) (hIv1 : YI v1) (hCf1 : YC f1) (hRf1 : progOK (f1 4) (f1 5) (v1 9).toInt.toNat) (heq0 : FREL v f v1 f1) (hP : va_P (dC, dI) vwCl (XW cy x0 x v f ++ YW cy y0 r v1 f1 w1 g1) H) (hD : va_D (fun q : Nat => s.heap.size ≤ q) (XW cy x0 x v f ++ YW cy y0 r v1 f1 w1 g1)) (hS : va_S (fun q : Nat => s.heap.size ≤ q) s.heap H locs) (hl : lv_has ls 4 [(3, .int i), (2, .ref y0), (1, .ref x0), (0, .ref b)]) (fin : ∀ (v : Nat → Int32) (f : Nat → Nat → Int32) (v1 : Nat → Int32) (f1 : Nat → Nat → Int32) (w1 : Int64) (g1 : Nat → Int64) (H : Heap) (locs : List Loc) (ls : Array Slot), XI v → YI v1 → YC f1 → progOK (f1 4) (f1 5) (v1 9).toInt.toNat → FREL v f v1 f1 → va_P (dC, dI) vwCl (XW cy x0 x v f ++ YW cy y0 r v1 f1 w1 g1) H → va_D (fun q : Nat => s.heap.size ≤ q) (XW cy x0 x v f ++ YW cy y0 r v1 f1 w1 g1) → va_S (fun q : Nat => s.heap.size ≤ q) s.heap H locs → lv_has ls 4 [(3, .int i), (2, .ref y0), (1, .ref x0), (0, .ref b)] → W p l e room_1 s m #[Value.ref b] below meth c H locs 81 11738 Q (F0 m 1413 ls [])) : W p l e room_1 s m #[Value.ref b] below meth c H locs 81 11738 Q (F0 m 1232 ls []) := by
  have hA : ∀ q : Nat, s.heap.size ≤ q → (fun q : Nat => s.heap.size ≤ q) q := fun _ h => h
  have hbA : ¬ (fun q : Nat => s.heap.size ≤ q) b := Nat.not_le.mpr hbl
  refine lv_aload_n hx hb dL_law_1232 rfl (lv_at hl 2 rfl) ?_
  refine lv_aload_n hx hb dL_law_1233 rfl (lv_at hl 3 rfl) ?_
  refine lv_iload_n hx hb dL_law_1234 rfl (lv_at hl 0 rfl) ?_
  refine lv_iconst (v := 1) hx hb dL_law_1235 (by decide) ?_
  refine lv_iadd hx hb dL_law_1236 ?_
  refine lv_topi (fun t1 et1 => ?_)
  have rg2 := fb_rng i
  have zt1 : t1.toInt = i.toInt + 1 := by rw [et1]; exact add_i rfl (by decide) (by omega) (by omega)
  refine va_sld hx hb hX hbl hbA hS (vp_in_iff.mpr ⟨by omega, by omega⟩) dL_law_1237 ?_
  refine lv_topi (fun a3 ea3 => ?_)
  refine caVi (n := 1) (wr := YW cy y0 r v1 f1 w1 g1) (rest := []) hx hb hml hown hts hE hP hD hS hA (sX_X10_later_1 0 l dC dI cy x0 x a3 v f hIv) k_1238 k_1239 k_1240 k_101 k_1241 hd_yX10_later ⟨Nat.le_of_ble_eq_true rfl, Nat.le_of_ble_eq_true rfl⟩ [0, 1, 2, 3, 4, 5, 6, 7, 8, 9, 10, 11, 12, 13, 14, 15, 16, 17, 18, 19, 20, 21, 22, 23, 24, 25, 26, 27, 28, 29, 30, 31, 32, 33, 34, 35, 36, 37, 38, 39, 40, 41] [42, 43, 44, 45, 46, 47, 48, 49, 50, 51, 52, 53, 54, 55, 56, 57, 58, 59, 60, 61, 62, 63, 64, 65, 66, 67, 68, 69, 70, 71, 72, 73, 74, 75, 76, 77, 78, 79, 80] (lx1 cy x0 y0 x r v f v1 f1 w1 g1) (lx2 cy x0 y0 x r v f v1 f1 w1 g1) (lx3 cy x0 y0 x r v f v1 f1 w1 g1) lx4 lx5 lx6 0 10 rfl rfl rfl hl.1 rfl (Nat.le_of_ble_eq_true rfl) dL_law_1238 ⟨Nat.le_of_ble_eq_true rfl, Nat.le_of_ble_eq_true rfl⟩ (fun r4 u H locs hw hP hD hS => ?_)
  obtain ⟨v5, f6⟩ := u
  obtain ⟨hGx, hVx, hFx, hIv5, hk1x, hk7x, hk8x, hk9x, hk10x, hk31x, hk32x⟩ := hw
  have hP : va_P (dC, dI) vwCl (YW cy y0 r v1 f1 w1 g1 ++ XW cy x0 x v5 f6) H := hP
  have hD : va_D (fun q : Nat => s.heap.size ≤ q) (YW cy y0 r v1 f1 w1 g1 ++ XW cy x0 x v5 f6) := hD
  refine lv_pop hx hb dL_law_1241 rfl ?_
  refine lv_aload_n hx hb dL_law_1242 rfl (lv_at hl 1 rfl) ?_
  refine lv_aload_n hx hb dL_law_1243 rfl (lv_at hl 3 rfl) ?_
  refine lv_iload_n hx hb dL_law_1244 rfl (lv_at hl 0 rfl) ?_
  refine lv_iconst (v := 1) hx hb dL_law_1245 (by decide) ?_
  refine lv_iadd hx hb dL_law_1246 ?_
  refine tI (y := t1) et1.symm ?_
  refine va_sld hx hb hX hbl hbA hS (vp_in_iff.mpr ⟨by omega, by omega⟩) dL_law_1247 ?_
  refine tI (y := a3) ea3.symm ?_
  refine caVi (n := 1) (wr := XW cy x0 x v5 f6) (rest := []) hx hb hml hown hts hE hP hD hS hA (sY_X11_later_1 0 l dC dI cy y0 r a3 v1 f1 w1 g1 hIv1 hCf1 hRf1) k_2015 k_2016 k_2017 k_114 k_2018 hd_yX11_later ⟨Nat.le_of_ble_eq_true rfl, Nat.le_of_ble_eq_true rfl⟩ [0, 1, 2, 3, 4, 5, 6, 7, 8, 9, 10, 11, 12, 13, 14, 15, 16, 17, 18, 19, 20, 21, 22, 23, 24, 25, 26, 27, 28, 29, 30, 31, 32, 33, 34, 35, 36, 37, 38] [39, 40, 41, 42, 43, 44, 45, 46, 47, 48, 49, 50, 51, 52, 53, 54, 55, 56, 57, 58, 59, 60, 61, 62, 63, 64, 65, 66, 67, 68, 69, 70, 71, 72, 73, 74, 75, 76, 77, 78, 79, 80] (ly1 cy x0 y0 x r v5 f6 v1 f1 w1 g1) (ly2 cy x0 y0 x r v5 f6 v1 f1 w1 g1) (ly3 cy x0 y0 x r v5 f6 v1 f1 w1 g1) ly4 ly5 ly6 0 11 rfl rfl rfl hl.1 rfl (Nat.le_of_ble_eq_true rfl) dL_law_1248 ⟨Nat.le_of_ble_eq_true rfl, Nat.le_of_ble_eq_true rfl⟩ (fun r7 u H locs hw hP hD hS => ?_)
  obtain ⟨v8, f9, w10, g11⟩ := u
  obtain ⟨hGy, hVy, hFy, hIv8, hCf9, hRf9, hk0y, hk1y, hk2y, hk3y, hk4y, hk5y, hk8y, hk9y, hk10y, hk13y, hk14y, hk15y, hk17y, hk18y, hk24y, hk25y, hk35y, hk36y, hk38y⟩ := hw
  have hpr := FREL.of3 heq0 (R3.later heq0.1 hGx hGy) (KV.use hVx rfl) (KF.use hFx rfl) (KV.use hVy rfl) (KF.use hFy rfl)
  have hP : va_P (dC, dI) vwCl (XW cy x0 x v5 f6 ++ YW cy y0 r v8 f9 w10 g11) H := hP
  have hD : va_D (fun q : Nat => s.heap.size ≤ q) (XW cy x0 x v5 f6 ++ YW cy y0 r v8 f9 w10 g11) := hD
  refine lv_pop hx hb dL_law_1251 rfl ?_
  refine lv_goto (tgt := 1413) hx hb dL_law_1252 (by decide) ?_
  exact fin v5 f6 v8 f9 w10 g11 _ _ _ hIv5 hIv8 hCf9 hRf9 hpr.2 hP hD hS hl
set_option maxHeartbeats 4000000 in
set_option maxRecDepth 100000 in
theorem law_41 {p : Program} {l : Launch} {e : Env} {s : State} {m : MethodId} {below : List Frame} {meth : Method} {c : Code} {dC : Nat → ClassId} {dI : Nat → Nat → Nat} {cy : Nat → ClassId} {b L : Nat} {xs : Nat → Int32} {Q : State → Prop} {x0 y0 : Nat} {x r : Nat → Nat} (hx : p.tables.exec = Jvm.exec) (hb : c.code = code) (hml : c.maxLocals = 4) (hown : s.vm.findClass RL = some m.cls) (hts : ∀ w ∈ BIG, w.before #[Value.ref b] s = true) (hE : ENV (dC, dI) cy s) (hF : SRF (dC, dI) s) (hT : STR (dC, dI) (fun q : Nat => s.heap.size ≤ q) s s.heap) (hX : va_X b L xs s s.heap) (hbl : b < s.heap.size) (hL : L ≤ 3072) {v : Nat → Int32} {f : Nat → Nat → Int32} {v1 : Nat → Int32} {f1 : Nat → Nat → Int32} {w1 : Int64} {g1 : Nat → Int64} {i : Int32} (hi0 : 0 ≤ i.toInt) (hi6 : i.toInt + 6 ≤ L) {H : Heap} {locs : List Loc} {ls : Array Slot} (hIv : XI v) (hIv1 : YI v1) (hCf1 : YC f1) (hRf1 : progOK (f1 4) (f1 5) (v1 9).toInt.toNat) (heq0 : FREL v f v1 f1) (hP : va_P (dC, dI) vwCl (XW cy x0 x v f ++ YW cy y0 r v1 f1 w1 g1) H) (hD : va_D (fun q : Nat => s.heap.size ≤ q) (XW cy x0 x v f ++ YW cy y0 r v1 f1 w1 g1)) (hS : va_S (fun q : Nat => s.heap.size ≤ q) s.heap H locs) (hl : lv_has ls 4 [(3, .int i), (2, .ref y0), (1, .ref x0), (0, .ref b)]) (fin : ∀ (v : Nat → Int32) (f : Nat → Nat → Int32) (v1 : Nat → Int32) (f1 : Nat → Nat → Int32) (w1 : Int64) (g1 : Nat → Int64) (H : Heap) (locs : List Loc) (ls : Array Slot), XI v → YI v1 → YC f1 → progOK (f1 4) (f1 5) (v1 9).toInt.toNat → FREL v f v1 f1 → va_P (dC, dI) vwCl (XW cy x0 x v f ++ YW cy y0 r v1 f1 w1 g1) H → va_D (fun q : Nat => s.heap.size ≤ q) (XW cy x0 x v f ++ YW cy y0 r v1 f1 w1 g1) → va_S (fun q : Nat => s.heap.size ≤ q) s.heap H locs → lv_has ls 4 [(3, .int i), (2, .ref y0), (1, .ref x0), (0, .ref b)] → W p l e room_1 s m #[Value.ref b] below meth c H locs 81 11738 Q (F0 m 1413 ls [])) : W p l e room_1 s m #[Value.ref b] below meth c H locs 81 11738 Q (F0 m 1255 ls []) := by
  have hA : ∀ q : Nat, s.heap.size ≤ q → (fun q : Nat => s.heap.size ≤ q) q := fun _ h => h
  have hbA : ¬ (fun q : Nat => s.heap.size ≤ q) b := Nat.not_le.mpr hbl
  refine lv_aload_n hx hb dL_law_1255 rfl (lv_at hl 2 rfl) ?_
  refine lv_aload_n hx hb dL_law_1256 rfl (lv_at hl 3 rfl) ?_
  refine lv_iload_n hx hb dL_law_1257 rfl (lv_at hl 0 rfl) ?_
  refine lv_iconst (v := 1) hx hb dL_law_1258 (by decide) ?_
  refine lv_iadd hx hb dL_law_1259 ?_
  refine lv_topi (fun t1 et1 => ?_)
  have rg2 := fb_rng i
  have zt1 : t1.toInt = i.toInt + 1 := by rw [et1]; exact add_i rfl (by decide) (by omega) (by omega)
  refine va_sld hx hb hX hbl hbA hS (vp_in_iff.mpr ⟨by omega, by omega⟩) dL_law_1260 ?_
  refine lv_topi (fun a3 ea3 => ?_)
  refine caVi (n := 1) (wr := YW cy y0 r v1 f1 w1 g1) (rest := []) hx hb hml hown hts hE hP hD hS hA (sX_X10_growths_1 l dC dI cy x0 x a3 v f hIv) k_1243 k_1244 k_1245 k_101 k_1246 hd_yX10_growths ⟨Nat.le_of_ble_eq_true rfl, Nat.le_of_ble_eq_true rfl⟩ [0, 1, 2, 3, 4, 5, 6, 7, 8, 9, 10, 11, 12, 13, 14, 15, 16, 17, 18, 19, 20, 21, 22, 23, 24, 25, 26, 27, 28, 29, 30, 31, 32, 33, 34, 35, 36, 37, 38, 39, 40, 41] [42, 43, 44, 45, 46, 47, 48, 49, 50, 51, 52, 53, 54, 55, 56, 57, 58, 59, 60, 61, 62, 63, 64, 65, 66, 67, 68, 69, 70, 71, 72, 73, 74, 75, 76, 77, 78, 79, 80] (lx1 cy x0 y0 x r v f v1 f1 w1 g1) (lx2 cy x0 y0 x r v f v1 f1 w1 g1) (lx3 cy x0 y0 x r v f v1 f1 w1 g1) lx4 lx5 lx6 0 10 rfl rfl rfl hl.1 rfl (Nat.le_of_ble_eq_true rfl) dL_law_1261 ⟨Nat.le_of_ble_eq_true rfl, Nat.le_of_ble_eq_true rfl⟩ (fun r4 u H locs hw hP hD hS => ?_)
  obtain ⟨v5, f6⟩ := u
  obtain ⟨hVx, hFx, hIv5, hk0x, hk1x, hk7x, hk8x, hk9x, hk10x, hk31x, hk32x⟩ := hw
  have hP : va_P (dC, dI) vwCl (YW cy y0 r v1 f1 w1 g1 ++ XW cy x0 x v5 f6) H := hP
  have hD : va_D (fun q : Nat => s.heap.size ≤ q) (YW cy y0 r v1 f1 w1 g1 ++ XW cy x0 x v5 f6) := hD
  refine lv_pop hx hb dL_law_1264 rfl ?_
  refine lv_aload_n hx hb dL_law_1265 rfl (lv_at hl 1 rfl) ?_
  refine lv_aload_n hx hb dL_law_1266 rfl (lv_at hl 3 rfl) ?_
  refine lv_iload_n hx hb dL_law_1267 rfl (lv_at hl 0 rfl) ?_
  refine lv_iconst (v := 1) hx hb dL_law_1268 (by decide) ?_
  refine lv_iadd hx hb dL_law_1269 ?_
  refine tI (y := t1) et1.symm ?_
  refine va_sld hx hb hX hbl hbA hS (vp_in_iff.mpr ⟨by omega, by omega⟩) dL_law_1270 ?_
  refine tI (y := a3) ea3.symm ?_
  refine caVi (n := 1) (wr := XW cy x0 x v5 f6) (rest := []) hx hb hml hown hts hE hP hD hS hA (sY_X11_growths_1 l dC dI cy y0 r a3 v1 f1 w1 g1 hIv1 hCf1 hRf1) k_2020 k_2021 k_2022 k_114 k_2023 hd_yX11_growths ⟨Nat.le_of_ble_eq_true rfl, Nat.le_of_ble_eq_true rfl⟩ [0, 1, 2, 3, 4, 5, 6, 7, 8, 9, 10, 11, 12, 13, 14, 15, 16, 17, 18, 19, 20, 21, 22, 23, 24, 25, 26, 27, 28, 29, 30, 31, 32, 33, 34, 35, 36, 37, 38] [39, 40, 41, 42, 43, 44, 45, 46, 47, 48, 49, 50, 51, 52, 53, 54, 55, 56, 57, 58, 59, 60, 61, 62, 63, 64, 65, 66, 67, 68, 69, 70, 71, 72, 73, 74, 75, 76, 77, 78, 79, 80] (ly1 cy x0 y0 x r v5 f6 v1 f1 w1 g1) (ly2 cy x0 y0 x r v5 f6 v1 f1 w1 g1) (ly3 cy x0 y0 x r v5 f6 v1 f1 w1 g1) ly4 ly5 ly6 0 11 rfl rfl rfl hl.1 rfl (Nat.le_of_ble_eq_true rfl) dL_law_1271 ⟨Nat.le_of_ble_eq_true rfl, Nat.le_of_ble_eq_true rfl⟩ (fun r7 u H locs hw hP hD hS => ?_)
  obtain ⟨v8, f9, w10, g11⟩ := u
  obtain ⟨hVy, hFy, hIv8, hCf9, hRf9, hk0y, hk1y, hk2y, hk3y, hk4y, hk5y, hk8y, hk9y, hk10y, hk13y, hk14y, hk15y, hk17y, hk18y, hk24y, hk25y, hk35y, hk36y, hk38y, hk39y⟩ := hw
  have hP : va_P (dC, dI) vwCl (XW cy x0 x v5 f6 ++ YW cy y0 r v8 f9 w10 g11) H := hP
  have hD : va_D (fun q : Nat => s.heap.size ≤ q) (XW cy x0 x v5 f6 ++ YW cy y0 r v8 f9 w10 g11) := hD
  refine lv_pop hx hb dL_law_1274 rfl ?_
  refine lv_goto (tgt := 1413) hx hb dL_law_1275 (by decide) ?_
  exact fin v5 f6 v8 f9 w10 g11 _ _ _ hIv5 hIv8 hCf9 hRf9 (FREL.keep heq0 (KV.use hVx rfl) (KF.use hFx rfl) (KV.use hVy rfl) (KF.use hFy rfl)) hP hD hS hl
set_option maxHeartbeats 4000000 in
set_option maxRecDepth 100000 in
theorem law_42 {p : Program} {l : Launch} {e : Env} {s : State} {m : MethodId} {below : List Frame} {meth : Method} {c : Code} {dC : Nat → ClassId} {dI : Nat → Nat → Nat} {cy : Nat → ClassId} {b L : Nat} {xs : Nat → Int32} {Q : State → Prop} {x0 y0 : Nat} {x r : Nat → Nat} (hx : p.tables.exec = Jvm.exec) (hb : c.code = code) (hml : c.maxLocals = 4) (hown : s.vm.findClass RL = some m.cls) (hts : ∀ w ∈ BIG, w.before #[Value.ref b] s = true) (hE : ENV (dC, dI) cy s) (hF : SRF (dC, dI) s) (hT : STR (dC, dI) (fun q : Nat => s.heap.size ≤ q) s s.heap) (hX : va_X b L xs s s.heap) (hbl : b < s.heap.size) (hL : L ≤ 3072) {v : Nat → Int32} {f : Nat → Nat → Int32} {v1 : Nat → Int32} {f1 : Nat → Nat → Int32} {w1 : Int64} {g1 : Nat → Int64} {i : Int32} (hi0 : 0 ≤ i.toInt) (hi6 : i.toInt + 6 ≤ L) {H : Heap} {locs : List Loc} {ls : Array Slot} (hIv : XI v) (hIv1 : YI v1) (hCf1 : YC f1) (hRf1 : progOK (f1 4) (f1 5) (v1 9).toInt.toNat) (heq0 : FREL v f v1 f1) (hP : va_P (dC, dI) vwCl (XW cy x0 x v f ++ YW cy y0 r v1 f1 w1 g1) H) (hD : va_D (fun q : Nat => s.heap.size ≤ q) (XW cy x0 x v f ++ YW cy y0 r v1 f1 w1 g1)) (hS : va_S (fun q : Nat => s.heap.size ≤ q) s.heap H locs) (hl : lv_has ls 4 [(3, .int i), (2, .ref y0), (1, .ref x0), (0, .ref b)]) (fin : ∀ (v : Nat → Int32) (f : Nat → Nat → Int32) (v1 : Nat → Int32) (f1 : Nat → Nat → Int32) (w1 : Int64) (g1 : Nat → Int64) (H : Heap) (locs : List Loc) (ls : Array Slot), XI v → YI v1 → YC f1 → progOK (f1 4) (f1 5) (v1 9).toInt.toNat → FREL v f v1 f1 → va_P (dC, dI) vwCl (XW cy x0 x v f ++ YW cy y0 r v1 f1 w1 g1) H → va_D (fun q : Nat => s.heap.size ≤ q) (XW cy x0 x v f ++ YW cy y0 r v1 f1 w1 g1) → va_S (fun q : Nat => s.heap.size ≤ q) s.heap H locs → lv_has ls 4 [(3, .int i), (2, .ref y0), (1, .ref x0), (0, .ref b)] → W p l e room_1 s m #[Value.ref b] below meth c H locs 81 11738 Q (F0 m 1413 ls [])) : W p l e room_1 s m #[Value.ref b] below meth c H locs 81 11738 Q (F0 m 1278 ls []) := by
  have hA : ∀ q : Nat, s.heap.size ≤ q → (fun q : Nat => s.heap.size ≤ q) q := fun _ h => h
  have hbA : ¬ (fun q : Nat => s.heap.size ≤ q) b := Nat.not_le.mpr hbl
  refine lv_aload_n hx hb dL_law_1278 rfl (lv_at hl 2 rfl) ?_
  refine lv_aload_n hx hb dL_law_1279 rfl (lv_at hl 3 rfl) ?_
  refine lv_iload_n hx hb dL_law_1280 rfl (lv_at hl 0 rfl) ?_
  refine lv_iconst (v := 1) hx hb dL_law_1281 (by decide) ?_
  refine lv_iadd hx hb dL_law_1282 ?_
  refine lv_topi (fun t1 et1 => ?_)
  have rg2 := fb_rng i
  have zt1 : t1.toInt = i.toInt + 1 := by rw [et1]; exact add_i rfl (by decide) (by omega) (by omega)
  refine va_sld hx hb hX hbl hbA hS (vp_in_iff.mpr ⟨by omega, by omega⟩) dL_law_1283 ?_
  refine lv_topi (fun a3 ea3 => ?_)
  refine lv_aload_n hx hb dL_law_1284 rfl (lv_at hl 3 rfl) ?_
  refine lv_iload_n hx hb dL_law_1285 rfl (lv_at hl 0 rfl) ?_
  refine lv_iconst (v := 2) hx hb dL_law_1286 (by decide) ?_
  refine lv_iadd hx hb dL_law_1287 ?_
  refine lv_topi (fun t4 et4 => ?_)
  have zt4 : t4.toInt = i.toInt + 2 := by rw [et4]; exact add_i rfl (by decide) (by omega) (by omega)
  refine va_sld hx hb hX hbl hbA hS (vp_in_iff.mpr ⟨by omega, by omega⟩) dL_law_1288 ?_
  refine lv_topi (fun a5 ea5 => ?_)
  refine caVi (n := 2) (wr := YW cy y0 r v1 f1 w1 g1) (rest := []) hx hb hml hown hts hE hP hD hS hA (sX_X10_sure_1 l dC dI cy x0 x a3 a5 v f hIv) k_1264 k_1265 k_1266 k_101 k_1267 hd_yX10_sure ⟨Nat.le_of_ble_eq_true rfl, Nat.le_of_ble_eq_true rfl⟩ [0, 1, 2, 3, 4, 5, 6, 7, 8, 9, 10, 11, 12, 13, 14, 15, 16, 17, 18, 19, 20, 21, 22, 23, 24, 25, 26, 27, 28, 29, 30, 31, 32, 33, 34, 35, 36, 37, 38, 39, 40, 41] [42, 43, 44, 45, 46, 47, 48, 49, 50, 51, 52, 53, 54, 55, 56, 57, 58, 59, 60, 61, 62, 63, 64, 65, 66, 67, 68, 69, 70, 71, 72, 73, 74, 75, 76, 77, 78, 79, 80] (lx1 cy x0 y0 x r v f v1 f1 w1 g1) (lx2 cy x0 y0 x r v f v1 f1 w1 g1) (lx3 cy x0 y0 x r v f v1 f1 w1 g1) lx4 lx5 lx6 0 10 rfl rfl rfl hl.1 rfl (Nat.le_of_ble_eq_true rfl) dL_law_1289 ⟨Nat.le_of_ble_eq_true rfl, Nat.le_of_ble_eq_true rfl⟩ (fun r6 u H locs hw hP hD hS => ?_)
  obtain ⟨v7, f8⟩ := u
  obtain ⟨hVx, hFx, hIv7, hk0x, hk1x, hk7x, hk8x, hk9x, hk10x, hk31x, hk32x⟩ := hw
  have hP : va_P (dC, dI) vwCl (YW cy y0 r v1 f1 w1 g1 ++ XW cy x0 x v7 f8) H := hP
  have hD : va_D (fun q : Nat => s.heap.size ≤ q) (YW cy y0 r v1 f1 w1 g1 ++ XW cy x0 x v7 f8) := hD
  refine lv_pop hx hb dL_law_1292 rfl ?_
  refine lv_aload_n hx hb dL_law_1293 rfl (lv_at hl 1 rfl) ?_
  refine lv_aload_n hx hb dL_law_1294 rfl (lv_at hl 3 rfl) ?_
  refine lv_iload_n hx hb dL_law_1295 rfl (lv_at hl 0 rfl) ?_
  refine lv_iconst (v := 1) hx hb dL_law_1296 (by decide) ?_
  refine lv_iadd hx hb dL_law_1297 ?_
  refine tI (y := t1) et1.symm ?_
  refine va_sld hx hb hX hbl hbA hS (vp_in_iff.mpr ⟨by omega, by omega⟩) dL_law_1298 ?_
  refine tI (y := a3) ea3.symm ?_
  refine lv_aload_n hx hb dL_law_1299 rfl (lv_at hl 3 rfl) ?_
  refine lv_iload_n hx hb dL_law_1300 rfl (lv_at hl 0 rfl) ?_
  refine lv_iconst (v := 2) hx hb dL_law_1301 (by decide) ?_
  refine lv_iadd hx hb dL_law_1302 ?_
  refine tI (y := t4) et4.symm ?_
  refine va_sld hx hb hX hbl hbA hS (vp_in_iff.mpr ⟨by omega, by omega⟩) dL_law_1303 ?_
  refine tI (y := a5) ea5.symm ?_
  refine caVi (n := 2) (wr := XW cy x0 x v7 f8) (rest := []) hx hb hml hown hts hE hP hD hS hA (sY_X11_sure_1 l dC dI cy y0 r a3 a5 v1 f1 w1 g1 hIv1 hCf1 hRf1) k_2032 k_2033 k_2034 k_114 k_2035 hd_yX11_sure ⟨Nat.le_of_ble_eq_true rfl, Nat.le_of_ble_eq_true rfl⟩ [0, 1, 2, 3, 4, 5, 6, 7, 8, 9, 10, 11, 12, 13, 14, 15, 16, 17, 18, 19, 20, 21, 22, 23, 24, 25, 26, 27, 28, 29, 30, 31, 32, 33, 34, 35, 36, 37, 38] [39, 40, 41, 42, 43, 44, 45, 46, 47, 48, 49, 50, 51, 52, 53, 54, 55, 56, 57, 58, 59, 60, 61, 62, 63, 64, 65, 66, 67, 68, 69, 70, 71, 72, 73, 74, 75, 76, 77, 78, 79, 80] (ly1 cy x0 y0 x r v7 f8 v1 f1 w1 g1) (ly2 cy x0 y0 x r v7 f8 v1 f1 w1 g1) (ly3 cy x0 y0 x r v7 f8 v1 f1 w1 g1) ly4 ly5 ly6 0 11 rfl rfl rfl hl.1 rfl (Nat.le_of_ble_eq_true rfl) dL_law_1304 ⟨Nat.le_of_ble_eq_true rfl, Nat.le_of_ble_eq_true rfl⟩ (fun r9 u H locs hw hP hD hS => ?_)
  obtain ⟨v10, f11, w12, g13⟩ := u
  obtain ⟨hVy, hFy, hIv10, hCf11, hRf11, hk0y, hk1y, hk2y, hk3y, hk4y, hk5y, hk8y, hk9y, hk10y, hk13y, hk14y, hk15y, hk17y, hk18y, hk24y, hk25y, hk35y, hk36y, hk38y, hk39y⟩ := hw
  have hP : va_P (dC, dI) vwCl (XW cy x0 x v7 f8 ++ YW cy y0 r v10 f11 w12 g13) H := hP
  have hD : va_D (fun q : Nat => s.heap.size ≤ q) (XW cy x0 x v7 f8 ++ YW cy y0 r v10 f11 w12 g13) := hD
  refine lv_pop hx hb dL_law_1307 rfl ?_
  refine lv_goto (tgt := 1413) hx hb dL_law_1308 (by decide) ?_
  exact fin v7 f8 v10 f11 w12 g13 _ _ _ hIv7 hIv10 hCf11 hRf11 (FREL.keep heq0 (KV.use hVx rfl) (KF.use hFx rfl) (KV.use hVy rfl) (KF.use hFy rfl)) hP hD hS hl
set_option maxHeartbeats 4000000 in
set_option maxRecDepth 100000 in
theorem law_43 {p : Program} {l : Launch} {e : Env} {s : State} {m : MethodId} {below : List Frame} {meth : Method} {c : Code} {dC : Nat → ClassId} {dI : Nat → Nat → Nat} {cy : Nat → ClassId} {b L : Nat} {xs : Nat → Int32} {Q : State → Prop} {x0 y0 : Nat} {x r : Nat → Nat} (hx : p.tables.exec = Jvm.exec) (hb : c.code = code) (hml : c.maxLocals = 4) (hown : s.vm.findClass RL = some m.cls) (hts : ∀ w ∈ BIG, w.before #[Value.ref b] s = true) (hE : ENV (dC, dI) cy s) (hF : SRF (dC, dI) s) (hT : STR (dC, dI) (fun q : Nat => s.heap.size ≤ q) s s.heap) (hX : va_X b L xs s s.heap) (hbl : b < s.heap.size) (hL : L ≤ 3072) {v : Nat → Int32} {f : Nat → Nat → Int32} {v1 : Nat → Int32} {f1 : Nat → Nat → Int32} {w1 : Int64} {g1 : Nat → Int64} {i : Int32} (hi0 : 0 ≤ i.toInt) (hi6 : i.toInt + 6 ≤ L) {H : Heap} {locs : List Loc} {ls : Array Slot} (hIv : XI v) (hIv1 : YI v1) (hCf1 : YC f1) (hRf1 : progOK (f1 4) (f1 5) (v1 9).toInt.toNat) (heq0 : FREL v f v1 f1) (hP : va_P (dC, dI) vwCl (XW cy x0 x v f ++ YW cy y0 r v1 f1 w1 g1) H) (hD : va_D (fun q : Nat => s.heap.size ≤ q) (XW cy x0 x v f ++ YW cy y0 r v1 f1 w1 g1)) (hS : va_S (fun q : Nat => s.heap.size ≤ q) s.heap H locs) (hl : lv_has ls 4 [(3, .int i), (2, .ref y0), (1, .ref x0), (0, .ref b)]) (fin : ∀ (v : Nat → Int32) (f : Nat → Nat → Int32) (v1 : Nat → Int32) (f1 : Nat → Nat → Int32) (w1 : Int64) (g1 : Nat → Int64) (H : Heap) (locs : List Loc) (ls : Array Slot), XI v → YI v1 → YC f1 → progOK (f1 4) (f1 5) (v1 9).toInt.toNat → FREL v f v1 f1 → va_P (dC, dI) vwCl (XW cy x0 x v f ++ YW cy y0 r v1 f1 w1 g1) H → va_D (fun q : Nat => s.heap.size ≤ q) (XW cy x0 x v f ++ YW cy y0 r v1 f1 w1 g1) → va_S (fun q : Nat => s.heap.size ≤ q) s.heap H locs → lv_has ls 4 [(3, .int i), (2, .ref y0), (1, .ref x0), (0, .ref b)] → W p l e room_1 s m #[Value.ref b] below meth c H locs 81 11738 Q (F0 m 1413 ls [])) : W p l e room_1 s m #[Value.ref b] below meth c H locs 81 11738 Q (F0 m 1311 ls []) := by
  have hA : ∀ q : Nat, s.heap.size ≤ q → (fun q : Nat => s.heap.size ≤ q) q := fun _ h => h
  have hbA : ¬ (fun q : Nat => s.heap.size ≤ q) b := Nat.not_le.mpr hbl
  refine lv_aload_n hx hb dL_law_1311 rfl (lv_at hl 2 rfl) ?_
  refine lv_aload_n hx hb dL_law_1312 rfl (lv_at hl 3 rfl) ?_
  refine lv_iload_n hx hb dL_law_1313 rfl (lv_at hl 0 rfl) ?_
  refine lv_iconst (v := 1) hx hb dL_law_1314 (by decide) ?_
  refine lv_iadd hx hb dL_law_1315 ?_
  refine lv_topi (fun t1 et1 => ?_)
  have rg2 := fb_rng i
  have zt1 : t1.toInt = i.toInt + 1 := by rw [et1]; exact add_i rfl (by decide) (by omega) (by omega)
  refine va_sld hx hb hX hbl hbA hS (vp_in_iff.mpr ⟨by omega, by omega⟩) dL_law_1316 ?_
  refine lv_topi (fun a3 ea3 => ?_)
  refine lv_aload_n hx hb dL_law_1317 rfl (lv_at hl 3 rfl) ?_
  refine lv_iload_n hx hb dL_law_1318 rfl (lv_at hl 0 rfl) ?_
  refine lv_iconst (v := 2) hx hb dL_law_1319 (by decide) ?_
  refine lv_iadd hx hb dL_law_1320 ?_
  refine lv_topi (fun t4 et4 => ?_)
  have zt4 : t4.toInt = i.toInt + 2 := by rw [et4]; exact add_i rfl (by decide) (by omega) (by omega)
  refine va_sld hx hb hX hbl hbA hS (vp_in_iff.mpr ⟨by omega, by omega⟩) dL_law_1321 ?_
  refine lv_topi (fun a5 ea5 => ?_)
  refine caVi (n := 2) (wr := YW cy y0 r v1 f1 w1 g1) (rest := []) hx hb hml hown hts hE hP hD hS hA (sX_X10_ask_1 l dC dI cy x0 x a3 a5 v f hIv) k_1275 k_1276 k_1277 k_101 k_1278 hd_yX10_ask ⟨Nat.le_of_ble_eq_true rfl, Nat.le_of_ble_eq_true rfl⟩ [0, 1, 2, 3, 4, 5, 6, 7, 8, 9, 10, 11, 12, 13, 14, 15, 16, 17, 18, 19, 20, 21, 22, 23, 24, 25, 26, 27, 28, 29, 30, 31, 32, 33, 34, 35, 36, 37, 38, 39, 40, 41] [42, 43, 44, 45, 46, 47, 48, 49, 50, 51, 52, 53, 54, 55, 56, 57, 58, 59, 60, 61, 62, 63, 64, 65, 66, 67, 68, 69, 70, 71, 72, 73, 74, 75, 76, 77, 78, 79, 80] (lx1 cy x0 y0 x r v f v1 f1 w1 g1) (lx2 cy x0 y0 x r v f v1 f1 w1 g1) (lx3 cy x0 y0 x r v f v1 f1 w1 g1) lx4 lx5 lx6 0 10 rfl rfl rfl hl.1 rfl (Nat.le_of_ble_eq_true rfl) dL_law_1322 ⟨Nat.le_of_ble_eq_true rfl, Nat.le_of_ble_eq_true rfl⟩ (fun r6 u H locs hw hP hD hS => ?_)
  obtain ⟨v7, f8⟩ := u
  obtain ⟨hVx, hFx, hIv7, hk0x, hk1x, hk7x, hk8x, hk9x, hk10x, hk31x, hk32x⟩ := hw
  have hP : va_P (dC, dI) vwCl (YW cy y0 r v1 f1 w1 g1 ++ XW cy x0 x v7 f8) H := hP
  have hD : va_D (fun q : Nat => s.heap.size ≤ q) (YW cy y0 r v1 f1 w1 g1 ++ XW cy x0 x v7 f8) := hD
  refine lv_pop hx hb dL_law_1325 rfl ?_
  refine lv_aload_n hx hb dL_law_1326 rfl (lv_at hl 1 rfl) ?_
  refine lv_aload_n hx hb dL_law_1327 rfl (lv_at hl 3 rfl) ?_
  refine lv_iload_n hx hb dL_law_1328 rfl (lv_at hl 0 rfl) ?_
  refine lv_iconst (v := 1) hx hb dL_law_1329 (by decide) ?_
  refine lv_iadd hx hb dL_law_1330 ?_
  refine tI (y := t1) et1.symm ?_
  refine va_sld hx hb hX hbl hbA hS (vp_in_iff.mpr ⟨by omega, by omega⟩) dL_law_1331 ?_
  refine tI (y := a3) ea3.symm ?_
  refine lv_aload_n hx hb dL_law_1332 rfl (lv_at hl 3 rfl) ?_
  refine lv_iload_n hx hb dL_law_1333 rfl (lv_at hl 0 rfl) ?_
  refine lv_iconst (v := 2) hx hb dL_law_1334 (by decide) ?_
  refine lv_iadd hx hb dL_law_1335 ?_
  refine tI (y := t4) et4.symm ?_
  refine va_sld hx hb hX hbl hbA hS (vp_in_iff.mpr ⟨by omega, by omega⟩) dL_law_1336 ?_
  refine tI (y := a5) ea5.symm ?_
  refine caVi (n := 2) (wr := XW cy x0 x v7 f8) (rest := []) hx hb hml hown hts hE hP hD hS hA (sY_X11_ask_1 l dC dI cy y0 r a3 a5 v1 f1 w1 g1 hIv1 hCf1 hRf1) k_2036 k_2037 k_2038 k_114 k_2039 hd_yX11_ask ⟨Nat.le_of_ble_eq_true rfl, Nat.le_of_ble_eq_true rfl⟩ [0, 1, 2, 3, 4, 5, 6, 7, 8, 9, 10, 11, 12, 13, 14, 15, 16, 17, 18, 19, 20, 21, 22, 23, 24, 25, 26, 27, 28, 29, 30, 31, 32, 33, 34, 35, 36, 37, 38] [39, 40, 41, 42, 43, 44, 45, 46, 47, 48, 49, 50, 51, 52, 53, 54, 55, 56, 57, 58, 59, 60, 61, 62, 63, 64, 65, 66, 67, 68, 69, 70, 71, 72, 73, 74, 75, 76, 77, 78, 79, 80] (ly1 cy x0 y0 x r v7 f8 v1 f1 w1 g1) (ly2 cy x0 y0 x r v7 f8 v1 f1 w1 g1) (ly3 cy x0 y0 x r v7 f8 v1 f1 w1 g1) ly4 ly5 ly6 0 11 rfl rfl rfl hl.1 rfl (Nat.le_of_ble_eq_true rfl) dL_law_1337 ⟨Nat.le_of_ble_eq_true rfl, Nat.le_of_ble_eq_true rfl⟩ (fun r9 u H locs hw hP hD hS => ?_)
  obtain ⟨v10, f11, w12, g13⟩ := u
  obtain ⟨hVy, hFy, hIv10, hCf11, hRf11, hk0y, hk1y, hk2y, hk3y, hk4y, hk5y, hk8y, hk9y, hk10y, hk13y, hk14y, hk15y, hk17y, hk18y, hk24y, hk25y, hk35y, hk36y, hk38y, hk39y⟩ := hw
  have hP : va_P (dC, dI) vwCl (XW cy x0 x v7 f8 ++ YW cy y0 r v10 f11 w12 g13) H := hP
  have hD : va_D (fun q : Nat => s.heap.size ≤ q) (XW cy x0 x v7 f8 ++ YW cy y0 r v10 f11 w12 g13) := hD
  refine lv_pop hx hb dL_law_1340 rfl ?_
  refine lv_goto (tgt := 1413) hx hb dL_law_1341 (by decide) ?_
  exact fin v7 f8 v10 f11 w12 g13 _ _ _ hIv7 hIv10 hCf11 hRf11 (FREL.keep heq0 (KV.use hVx rfl) (KF.use hFx rfl) (KV.use hVy rfl) (KF.use hFy rfl)) hP hD hS hl
set_option maxHeartbeats 4000000 in
set_option maxRecDepth 100000 in
theorem law_44 {p : Program} {l : Launch} {e : Env} {s : State} {m : MethodId} {below : List Frame} {meth : Method} {c : Code} {dC : Nat → ClassId} {dI : Nat → Nat → Nat} {cy : Nat → ClassId} {b L : Nat} {xs : Nat → Int32} {Q : State → Prop} {x0 y0 : Nat} {x r : Nat → Nat} (hx : p.tables.exec = Jvm.exec) (hb : c.code = code) (hml : c.maxLocals = 4) (hown : s.vm.findClass RL = some m.cls) (hts : ∀ w ∈ BIG, w.before #[Value.ref b] s = true) (hE : ENV (dC, dI) cy s) (hF : SRF (dC, dI) s) (hT : STR (dC, dI) (fun q : Nat => s.heap.size ≤ q) s s.heap) (hX : va_X b L xs s s.heap) (hbl : b < s.heap.size) (hL : L ≤ 3072) {v : Nat → Int32} {f : Nat → Nat → Int32} {v1 : Nat → Int32} {f1 : Nat → Nat → Int32} {w1 : Int64} {g1 : Nat → Int64} {i : Int32} (hi0 : 0 ≤ i.toInt) (hi6 : i.toInt + 6 ≤ L) {H : Heap} {locs : List Loc} {ls : Array Slot} (hIv : XI v) (hIv1 : YI v1) (hCf1 : YC f1) (hRf1 : progOK (f1 4) (f1 5) (v1 9).toInt.toNat) (heq0 : FREL v f v1 f1) (hP : va_P (dC, dI) vwCl (XW cy x0 x v f ++ YW cy y0 r v1 f1 w1 g1) H) (hD : va_D (fun q : Nat => s.heap.size ≤ q) (XW cy x0 x v f ++ YW cy y0 r v1 f1 w1 g1)) (hS : va_S (fun q : Nat => s.heap.size ≤ q) s.heap H locs) (hl : lv_has ls 4 [(3, .int i), (2, .ref y0), (1, .ref x0), (0, .ref b)]) (fin : ∀ (v : Nat → Int32) (f : Nat → Nat → Int32) (v1 : Nat → Int32) (f1 : Nat → Nat → Int32) (w1 : Int64) (g1 : Nat → Int64) (H : Heap) (locs : List Loc) (ls : Array Slot), XI v → YI v1 → YC f1 → progOK (f1 4) (f1 5) (v1 9).toInt.toNat → FREL v f v1 f1 → va_P (dC, dI) vwCl (XW cy x0 x v f ++ YW cy y0 r v1 f1 w1 g1) H → va_D (fun q : Nat => s.heap.size ≤ q) (XW cy x0 x v f ++ YW cy y0 r v1 f1 w1 g1) → va_S (fun q : Nat => s.heap.size ≤ q) s.heap H locs → lv_has ls 4 [(3, .int i), (2, .ref y0), (1, .ref x0), (0, .ref b)] → W p l e room_1 s m #[Value.ref b] below meth c H locs 81 11738 Q (F0 m 1413 ls [])) : W p l e room_1 s m #[Value.ref b] below meth c H locs 81 11738 Q (F0 m 1344 ls []) := by
  have hA : ∀ q : Nat, s.heap.size ≤ q → (fun q : Nat => s.heap.size ≤ q) q := fun _ h => h
  have hbA : ¬ (fun q : Nat => s.heap.size ≤ q) b := Nat.not_le.mpr hbl
  refine lv_aload_n hx hb dL_law_1344 rfl (lv_at hl 2 rfl) ?_
  refine lv_aload_n hx hb dL_law_1345 rfl (lv_at hl 3 rfl) ?_
  refine lv_iload_n hx hb dL_law_1346 rfl (lv_at hl 0 rfl) ?_
  refine lv_iconst (v := 1) hx hb dL_law_1347 (by decide) ?_
  refine lv_iadd hx hb dL_law_1348 ?_
  refine lv_topi (fun t1 et1 => ?_)
  have rg2 := fb_rng i
  have zt1 : t1.toInt = i.toInt + 1 := by rw [et1]; exact add_i rfl (by decide) (by omega) (by omega)
  refine va_sld hx hb hX hbl hbA hS (vp_in_iff.mpr ⟨by omega, by omega⟩) dL_law_1349 ?_
  refine lv_topi (fun a3 ea3 => ?_)
  refine caVi (n := 1) (wr := YW cy y0 r v1 f1 w1 g1) (rest := []) hx hb hml hown hts hE hP hD hS hA (sX_X10_image_1 0 l dC dI cy x0 x a3 v f hIv) k_1290 k_1291 k_1292 k_101 k_1293 hd_yX10_image ⟨Nat.le_of_ble_eq_true rfl, Nat.le_of_ble_eq_true rfl⟩ [0, 1, 2, 3, 4, 5, 6, 7, 8, 9, 10, 11, 12, 13, 14, 15, 16, 17, 18, 19, 20, 21, 22, 23, 24, 25, 26, 27, 28, 29, 30, 31, 32, 33, 34, 35, 36, 37, 38, 39, 40, 41] [42, 43, 44, 45, 46, 47, 48, 49, 50, 51, 52, 53, 54, 55, 56, 57, 58, 59, 60, 61, 62, 63, 64, 65, 66, 67, 68, 69, 70, 71, 72, 73, 74, 75, 76, 77, 78, 79, 80] (lx1 cy x0 y0 x r v f v1 f1 w1 g1) (lx2 cy x0 y0 x r v f v1 f1 w1 g1) (lx3 cy x0 y0 x r v f v1 f1 w1 g1) lx4 lx5 lx6 0 10 rfl rfl rfl hl.1 rfl (Nat.le_of_ble_eq_true rfl) dL_law_1350 ⟨Nat.le_of_ble_eq_true rfl, Nat.le_of_ble_eq_true rfl⟩ (fun r4 u H locs hw hP hD hS => ?_)
  obtain ⟨v5, f6⟩ := u
  obtain ⟨hGx, hVx, hFx, hIv5, hk0x, hk1x, hk7x, hk8x, hk9x, hk10x, hk31x, hk32x⟩ := hw
  have hP : va_P (dC, dI) vwCl (YW cy y0 r v1 f1 w1 g1 ++ XW cy x0 x v5 f6) H := hP
  have hD : va_D (fun q : Nat => s.heap.size ≤ q) (YW cy y0 r v1 f1 w1 g1 ++ XW cy x0 x v5 f6) := hD
  refine lv_pop hx hb dL_law_1353 rfl ?_
  refine lv_aload_n hx hb dL_law_1354 rfl (lv_at hl 1 rfl) ?_
  refine lv_aload_n hx hb dL_law_1355 rfl (lv_at hl 3 rfl) ?_
  refine lv_iload_n hx hb dL_law_1356 rfl (lv_at hl 0 rfl) ?_
  refine lv_iconst (v := 1) hx hb dL_law_1357 (by decide) ?_
  refine lv_iadd hx hb dL_law_1358 ?_
  refine tI (y := t1) et1.symm ?_
  refine va_sld hx hb hX hbl hbA hS (vp_in_iff.mpr ⟨by omega, by omega⟩) dL_law_1359 ?_
  refine tI (y := a3) ea3.symm ?_
  refine caVi (n := 1) (wr := XW cy x0 x v5 f6) (rest := []) hx hb hml hown hts hE hP hD hS hA (sY_X11_image_1 0 l dC dI cy y0 r a3 v1 f1 w1 g1 hIv1 hCf1 hRf1) k_2044 k_2045 k_2046 k_114 k_2047 hd_yX11_image ⟨Nat.le_of_ble_eq_true rfl, Nat.le_of_ble_eq_true rfl⟩ [0, 1, 2, 3, 4, 5, 6, 7, 8, 9, 10, 11, 12, 13, 14, 15, 16, 17, 18, 19, 20, 21, 22, 23, 24, 25, 26, 27, 28, 29, 30, 31, 32, 33, 34, 35, 36, 37, 38] [39, 40, 41, 42, 43, 44, 45, 46, 47, 48, 49, 50, 51, 52, 53, 54, 55, 56, 57, 58, 59, 60, 61, 62, 63, 64, 65, 66, 67, 68, 69, 70, 71, 72, 73, 74, 75, 76, 77, 78, 79, 80] (ly1 cy x0 y0 x r v5 f6 v1 f1 w1 g1) (ly2 cy x0 y0 x r v5 f6 v1 f1 w1 g1) (ly3 cy x0 y0 x r v5 f6 v1 f1 w1 g1) ly4 ly5 ly6 0 11 rfl rfl rfl hl.1 rfl (Nat.le_of_ble_eq_true rfl) dL_law_1360 ⟨Nat.le_of_ble_eq_true rfl, Nat.le_of_ble_eq_true rfl⟩ (fun r7 u H locs hw hP hD hS => ?_)
  obtain ⟨v8, f9, w10, g11⟩ := u
  obtain ⟨hGy, hVy, hFy, hIv8, hCf9, hRf9, hk0y, hk1y, hk2y, hk3y, hk4y, hk5y, hk8y, hk9y, hk10y, hk13y, hk14y, hk15y, hk17y, hk18y, hk24y, hk25y, hk35y, hk36y, hk38y, hk39y⟩ := hw
  have hpr := FREL.image heq0 hGx hGy
  have hP : va_P (dC, dI) vwCl (XW cy x0 x v5 f6 ++ YW cy y0 r v8 f9 w10 g11) H := hP
  have hD : va_D (fun q : Nat => s.heap.size ≤ q) (XW cy x0 x v5 f6 ++ YW cy y0 r v8 f9 w10 g11) := hD
  refine lv_pop hx hb dL_law_1363 rfl ?_
  refine lv_goto (tgt := 1413) hx hb dL_law_1364 (by decide) ?_
  exact fin v5 f6 v8 f9 w10 g11 _ _ _ hIv5 hIv8 hCf9 hRf9 hpr.2 hP hD hS hl
set_option maxHeartbeats 4000000 in
set_option maxRecDepth 100000 in
theorem law_45 {p : Program} {l : Launch} {e : Env} {s : State} {m : MethodId} {below : List Frame} {meth : Method} {c : Code} {dC : Nat → ClassId} {dI : Nat → Nat → Nat} {cy : Nat → ClassId} {b L : Nat} {xs : Nat → Int32} {Q : State → Prop} {x0 y0 : Nat} {x r : Nat → Nat} (hx : p.tables.exec = Jvm.exec) (hb : c.code = code) (hml : c.maxLocals = 4) (hown : s.vm.findClass RL = some m.cls) (hts : ∀ w ∈ BIG, w.before #[Value.ref b] s = true) (hE : ENV (dC, dI) cy s) (hF : SRF (dC, dI) s) (hT : STR (dC, dI) (fun q : Nat => s.heap.size ≤ q) s s.heap) (hX : va_X b L xs s s.heap) (hbl : b < s.heap.size) (hL : L ≤ 3072) {v : Nat → Int32} {f : Nat → Nat → Int32} {v1 : Nat → Int32} {f1 : Nat → Nat → Int32} {w1 : Int64} {g1 : Nat → Int64} {i : Int32} (hi0 : 0 ≤ i.toInt) (hi6 : i.toInt + 6 ≤ L) {H : Heap} {locs : List Loc} {ls : Array Slot} (hIv : XI v) (hIv1 : YI v1) (hCf1 : YC f1) (hRf1 : progOK (f1 4) (f1 5) (v1 9).toInt.toNat) (heq0 : FREL v f v1 f1) (hP : va_P (dC, dI) vwCl (XW cy x0 x v f ++ YW cy y0 r v1 f1 w1 g1) H) (hD : va_D (fun q : Nat => s.heap.size ≤ q) (XW cy x0 x v f ++ YW cy y0 r v1 f1 w1 g1)) (hS : va_S (fun q : Nat => s.heap.size ≤ q) s.heap H locs) (hl : lv_has ls 4 [(3, .int i), (2, .ref y0), (1, .ref x0), (0, .ref b)]) (fin : ∀ (v : Nat → Int32) (f : Nat → Nat → Int32) (v1 : Nat → Int32) (f1 : Nat → Nat → Int32) (w1 : Int64) (g1 : Nat → Int64) (H : Heap) (locs : List Loc) (ls : Array Slot), XI v → YI v1 → YC f1 → progOK (f1 4) (f1 5) (v1 9).toInt.toNat → FREL v f v1 f1 → va_P (dC, dI) vwCl (XW cy x0 x v f ++ YW cy y0 r v1 f1 w1 g1) H → va_D (fun q : Nat => s.heap.size ≤ q) (XW cy x0 x v f ++ YW cy y0 r v1 f1 w1 g1) → va_S (fun q : Nat => s.heap.size ≤ q) s.heap H locs → lv_has ls 4 [(3, .int i), (2, .ref y0), (1, .ref x0), (0, .ref b)] → W p l e room_1 s m #[Value.ref b] below meth c H locs 81 11738 Q (F0 m 1413 ls [])) : W p l e room_1 s m #[Value.ref b] below meth c H locs 81 11738 Q (F0 m 1367 ls []) := by
  have hA : ∀ q : Nat, s.heap.size ≤ q → (fun q : Nat => s.heap.size ≤ q) q := fun _ h => h
  have hbA : ¬ (fun q : Nat => s.heap.size ≤ q) b := Nat.not_le.mpr hbl
  refine lv_aload_n hx hb dL_law_1367 rfl (lv_at hl 2 rfl) ?_
  refine lv_aload_n hx hb dL_law_1368 rfl (lv_at hl 3 rfl) ?_
  refine lv_iload_n hx hb dL_law_1369 rfl (lv_at hl 0 rfl) ?_
  refine lv_iconst (v := 1) hx hb dL_law_1370 (by decide) ?_
  refine lv_iadd hx hb dL_law_1371 ?_
  refine lv_topi (fun t1 et1 => ?_)
  have rg2 := fb_rng i
  have zt1 : t1.toInt = i.toInt + 1 := by rw [et1]; exact add_i rfl (by decide) (by omega) (by omega)
  refine va_sld hx hb hX hbl hbA hS (vp_in_iff.mpr ⟨by omega, by omega⟩) dL_law_1372 ?_
  refine lv_topi (fun a3 ea3 => ?_)
  refine caVi (n := 1) (wr := YW cy y0 r v1 f1 w1 g1) (rest := []) hx hb hml hown hts hE hP hD hS hA (sX_X10_back_1 0 l dC dI cy x0 x a3 v f hIv) k_1298 k_1299 k_1300 k_101 k_1301 hd_yX10_back ⟨Nat.le_of_ble_eq_true rfl, Nat.le_of_ble_eq_true rfl⟩ [0, 1, 2, 3, 4, 5, 6, 7, 8, 9, 10, 11, 12, 13, 14, 15, 16, 17, 18, 19, 20, 21, 22, 23, 24, 25, 26, 27, 28, 29, 30, 31, 32, 33, 34, 35, 36, 37, 38, 39, 40, 41] [42, 43, 44, 45, 46, 47, 48, 49, 50, 51, 52, 53, 54, 55, 56, 57, 58, 59, 60, 61, 62, 63, 64, 65, 66, 67, 68, 69, 70, 71, 72, 73, 74, 75, 76, 77, 78, 79, 80] (lx1 cy x0 y0 x r v f v1 f1 w1 g1) (lx2 cy x0 y0 x r v f v1 f1 w1 g1) (lx3 cy x0 y0 x r v f v1 f1 w1 g1) lx4 lx5 lx6 0 10 rfl rfl rfl hl.1 rfl (Nat.le_of_ble_eq_true rfl) dL_law_1373 ⟨Nat.le_of_ble_eq_true rfl, Nat.le_of_ble_eq_true rfl⟩ (fun r4 u H locs hw hP hD hS => ?_)
  obtain ⟨v5, f6⟩ := u
  obtain ⟨hGx, hVx, hFx, hIv5, hk0x, hk1x, hk7x, hk8x, hk9x, hk10x, hk31x, hk32x⟩ := hw
  have hP : va_P (dC, dI) vwCl (YW cy y0 r v1 f1 w1 g1 ++ XW cy x0 x v5 f6) H := hP
  have hD : va_D (fun q : Nat => s.heap.size ≤ q) (YW cy y0 r v1 f1 w1 g1 ++ XW cy x0 x v5 f6) := hD
  refine lv_pop hx hb dL_law_1376 rfl ?_
  refine lv_aload_n hx hb dL_law_1377 rfl (lv_at hl 1 rfl) ?_
  refine lv_aload_n hx hb dL_law_1378 rfl (lv_at hl 3 rfl) ?_
  refine lv_iload_n hx hb dL_law_1379 rfl (lv_at hl 0 rfl) ?_
  refine lv_iconst (v := 1) hx hb dL_law_1380 (by decide) ?_
  refine lv_iadd hx hb dL_law_1381 ?_
  refine tI (y := t1) et1.symm ?_
  refine va_sld hx hb hX hbl hbA hS (vp_in_iff.mpr ⟨by omega, by omega⟩) dL_law_1382 ?_
  refine tI (y := a3) ea3.symm ?_
  refine caVi (n := 1) (wr := XW cy x0 x v5 f6) (rest := []) hx hb hml hown hts hE hP hD hS hA (sY_X11_back_1 0 l dC dI cy y0 r a3 v1 f1 w1 g1 hIv1 hCf1 hRf1) k_2051 k_2052 k_2053 k_114 k_2054 hd_yX11_back ⟨Nat.le_of_ble_eq_true rfl, Nat.le_of_ble_eq_true rfl⟩ [0, 1, 2, 3, 4, 5, 6, 7, 8, 9, 10, 11, 12, 13, 14, 15, 16, 17, 18, 19, 20, 21, 22, 23, 24, 25, 26, 27, 28, 29, 30, 31, 32, 33, 34, 35, 36, 37, 38] [39, 40, 41, 42, 43, 44, 45, 46, 47, 48, 49, 50, 51, 52, 53, 54, 55, 56, 57, 58, 59, 60, 61, 62, 63, 64, 65, 66, 67, 68, 69, 70, 71, 72, 73, 74, 75, 76, 77, 78, 79, 80] (ly1 cy x0 y0 x r v5 f6 v1 f1 w1 g1) (ly2 cy x0 y0 x r v5 f6 v1 f1 w1 g1) (ly3 cy x0 y0 x r v5 f6 v1 f1 w1 g1) ly4 ly5 ly6 0 11 rfl rfl rfl hl.1 rfl (Nat.le_of_ble_eq_true rfl) dL_law_1383 ⟨Nat.le_of_ble_eq_true rfl, Nat.le_of_ble_eq_true rfl⟩ (fun r7 u H locs hw hP hD hS => ?_)
  obtain ⟨v8, f9, w10, g11⟩ := u
  obtain ⟨hGy, hVy, hFy, hIv8, hCf9, hRf9, hk0y, hk1y, hk2y, hk3y, hk4y, hk5y, hk8y, hk9y, hk10y, hk13y, hk14y, hk15y, hk17y, hk18y, hk24y, hk25y, hk38y, hk39y⟩ := hw
  have hpr := FREL.back heq0 hGx hGy
  have hP : va_P (dC, dI) vwCl (XW cy x0 x v5 f6 ++ YW cy y0 r v8 f9 w10 g11) H := hP
  have hD : va_D (fun q : Nat => s.heap.size ≤ q) (XW cy x0 x v5 f6 ++ YW cy y0 r v8 f9 w10 g11) := hD
  refine lv_pop hx hb dL_law_1386 rfl ?_
  refine lv_goto (tgt := 1413) hx hb dL_law_1387 (by decide) ?_
  exact fin v5 f6 v8 f9 w10 g11 _ _ _ hIv5 hIv8 hCf9 hRf9 hpr.2 hP hD hS hl
set_option maxHeartbeats 4000000 in
set_option maxRecDepth 100000 in
theorem law_46 {p : Program} {l : Launch} {e : Env} {s : State} {m : MethodId} {below : List Frame} {meth : Method} {c : Code} {dC : Nat → ClassId} {dI : Nat → Nat → Nat} {cy : Nat → ClassId} {b L : Nat} {xs : Nat → Int32} {Q : State → Prop} {x0 y0 : Nat} {x r : Nat → Nat} (hx : p.tables.exec = Jvm.exec) (hb : c.code = code) (hml : c.maxLocals = 4) (hown : s.vm.findClass RL = some m.cls) (hts : ∀ w ∈ BIG, w.before #[Value.ref b] s = true) (hE : ENV (dC, dI) cy s) (hF : SRF (dC, dI) s) (hT : STR (dC, dI) (fun q : Nat => s.heap.size ≤ q) s s.heap) (hX : va_X b L xs s s.heap) (hbl : b < s.heap.size) (hL : L ≤ 3072) {v : Nat → Int32} {f : Nat → Nat → Int32} {v1 : Nat → Int32} {f1 : Nat → Nat → Int32} {w1 : Int64} {g1 : Nat → Int64} {i : Int32} (hi0 : 0 ≤ i.toInt) (hi6 : i.toInt + 6 ≤ L) {H : Heap} {locs : List Loc} {ls : Array Slot} (hIv : XI v) (hIv1 : YI v1) (hCf1 : YC f1) (hRf1 : progOK (f1 4) (f1 5) (v1 9).toInt.toNat) (heq0 : FREL v f v1 f1) (hP : va_P (dC, dI) vwCl (XW cy x0 x v f ++ YW cy y0 r v1 f1 w1 g1) H) (hD : va_D (fun q : Nat => s.heap.size ≤ q) (XW cy x0 x v f ++ YW cy y0 r v1 f1 w1 g1)) (hS : va_S (fun q : Nat => s.heap.size ≤ q) s.heap H locs) (hl : lv_has ls 4 [(3, .int i), (2, .ref y0), (1, .ref x0), (0, .ref b)]) (fin : ∀ (v : Nat → Int32) (f : Nat → Nat → Int32) (v1 : Nat → Int32) (f1 : Nat → Nat → Int32) (w1 : Int64) (g1 : Nat → Int64) (H : Heap) (locs : List Loc) (ls : Array Slot), XI v → YI v1 → YC f1 → progOK (f1 4) (f1 5) (v1 9).toInt.toNat → FREL v f v1 f1 → va_P (dC, dI) vwCl (XW cy x0 x v f ++ YW cy y0 r v1 f1 w1 g1) H → va_D (fun q : Nat => s.heap.size ≤ q) (XW cy x0 x v f ++ YW cy y0 r v1 f1 w1 g1) → va_S (fun q : Nat => s.heap.size ≤ q) s.heap H locs → lv_has ls 4 [(3, .int i), (2, .ref y0), (1, .ref x0), (0, .ref b)] → W p l e room_1 s m #[Value.ref b] below meth c H locs 81 11738 Q (F0 m 1413 ls [])) : W p l e room_1 s m #[Value.ref b] below meth c H locs 81 11738 Q (F0 m 1390 ls []) := by
  have hA : ∀ q : Nat, s.heap.size ≤ q → (fun q : Nat => s.heap.size ≤ q) q := fun _ h => h
  have hbA : ¬ (fun q : Nat => s.heap.size ≤ q) b := Nat.not_le.mpr hbl
  refine lv_aload_n hx hb dL_law_1390 rfl (lv_at hl 2 rfl) ?_
  refine lv_aload_n hx hb dL_law_1391 rfl (lv_at hl 3 rfl) ?_
  refine lv_iload_n hx hb dL_law_1392 rfl (lv_at hl 0 rfl) ?_
  refine lv_iconst (v := 1) hx hb dL_law_1393 (by decide) ?_
  refine lv_iadd hx hb dL_law_1394 ?_
  refine lv_topi (fun t1 et1 => ?_)
  have rg2 := fb_rng i
  have zt1 : t1.toInt = i.toInt + 1 := by rw [et1]; exact add_i rfl (by decide) (by omega) (by omega)
  refine va_sld hx hb hX hbl hbA hS (vp_in_iff.mpr ⟨by omega, by omega⟩) dL_law_1395 ?_
  refine lv_topi (fun a3 ea3 => ?_)
  refine caVi (n := 1) (wr := YW cy y0 r v1 f1 w1 g1) (rest := []) hx hb hml hown hts hE hP hD hS hA (sX_X10_about_1 l dC dI cy x0 x a3 v f hIv) k_1306 k_1307 k_1308 k_101 k_1309 hd_yX10_about ⟨Nat.le_of_ble_eq_true rfl, Nat.le_of_ble_eq_true rfl⟩ [0, 1, 2, 3, 4, 5, 6, 7, 8, 9, 10, 11, 12, 13, 14, 15, 16, 17, 18, 19, 20, 21, 22, 23, 24, 25, 26, 27, 28, 29, 30, 31, 32, 33, 34, 35, 36, 37, 38, 39, 40, 41] [42, 43, 44, 45, 46, 47, 48, 49, 50, 51, 52, 53, 54, 55, 56, 57, 58, 59, 60, 61, 62, 63, 64, 65, 66, 67, 68, 69, 70, 71, 72, 73, 74, 75, 76, 77, 78, 79, 80] (lx1 cy x0 y0 x r v f v1 f1 w1 g1) (lx2 cy x0 y0 x r v f v1 f1 w1 g1) (lx3 cy x0 y0 x r v f v1 f1 w1 g1) lx4 lx5 lx6 0 10 rfl rfl rfl hl.1 rfl (Nat.le_of_ble_eq_true rfl) dL_law_1396 ⟨Nat.le_of_ble_eq_true rfl, Nat.le_of_ble_eq_true rfl⟩ (fun r4 u H locs hw hP hD hS => ?_)
  have hP : va_P (dC, dI) vwCl (YW cy y0 r v1 f1 w1 g1 ++ XW cy x0 x v f) H := hP
  have hD : va_D (fun q : Nat => s.heap.size ≤ q) (YW cy y0 r v1 f1 w1 g1 ++ XW cy x0 x v f) := hD
  refine lv_pop hx hb dL_law_1399 rfl ?_
  refine lv_aload_n hx hb dL_law_1400 rfl (lv_at hl 1 rfl) ?_
  refine lv_aload_n hx hb dL_law_1401 rfl (lv_at hl 3 rfl) ?_
  refine lv_iload_n hx hb dL_law_1402 rfl (lv_at hl 0 rfl) ?_
  refine lv_iconst (v := 1) hx hb dL_law_1403 (by decide) ?_
  refine lv_iadd hx hb dL_law_1404 ?_
  refine tI (y := t1) et1.symm ?_
  refine va_sld hx hb hX hbl hbA hS (vp_in_iff.mpr ⟨by omega, by omega⟩) dL_law_1405 ?_
  refine tI (y := a3) ea3.symm ?_
  refine caVi (n := 1) (wr := XW cy x0 x v f) (rest := []) hx hb hml hown hts hE hP hD hS hA (sY_X11_about_1 l dC dI cy y0 r a3 v1 f1 w1 g1 hIv1 hCf1 hRf1) k_2055 k_2056 k_2057 k_114 k_2058 hd_yX11_about ⟨Nat.le_of_ble_eq_true rfl, Nat.le_of_ble_eq_true rfl⟩ [0, 1, 2, 3, 4, 5, 6, 7, 8, 9, 10, 11, 12, 13, 14, 15, 16, 17, 18, 19, 20, 21, 22, 23, 24, 25, 26, 27, 28, 29, 30, 31, 32, 33, 34, 35, 36, 37, 38] [39, 40, 41, 42, 43, 44, 45, 46, 47, 48, 49, 50, 51, 52, 53, 54, 55, 56, 57, 58, 59, 60, 61, 62, 63, 64, 65, 66, 67, 68, 69, 70, 71, 72, 73, 74, 75, 76, 77, 78, 79, 80] (ly1 cy x0 y0 x r v f v1 f1 w1 g1) (ly2 cy x0 y0 x r v f v1 f1 w1 g1) (ly3 cy x0 y0 x r v f v1 f1 w1 g1) ly4 ly5 ly6 0 11 rfl rfl rfl hl.1 rfl (Nat.le_of_ble_eq_true rfl) dL_law_1406 ⟨Nat.le_of_ble_eq_true rfl, Nat.le_of_ble_eq_true rfl⟩ (fun r5 u H locs hw hP hD hS => ?_)
  have hP : va_P (dC, dI) vwCl (XW cy x0 x v f ++ YW cy y0 r v1 f1 w1 g1) H := hP
  have hD : va_D (fun q : Nat => s.heap.size ≤ q) (XW cy x0 x v f ++ YW cy y0 r v1 f1 w1 g1) := hD
  refine lv_pop hx hb dL_law_1409 rfl ?_
  refine lv_goto (tgt := 1413) hx hb dL_law_1410 (by decide) ?_
  exact fin v f v1 f1 w1 g1 _ _ _ hIv hIv1 hCf1 hRf1 (FREL.keep heq0 (fun _ _ => rfl) (fun _ _ => rfl) (fun _ _ => rfl) (fun _ _ => rfl)) hP hD hS hl
