set_option maxHeartbeats 4000000 in
set_option maxRecDepth 100000 in
theorem law_16 {p : Program} {l : Launch} {e : Env} {s : State} {m : MethodId} {below : List Frame} {meth : Method} {c : Code} {dC : Nat → ClassId} {dI : Nat → Nat → Nat} {cy : Nat → ClassId} {b L : Nat} {xs : Nat → Int32} {Q : State → Prop} {x0 y0 : Nat} {x r : Nat → Nat} (hx : p.tables.exec = Jvm.exec) (hb : c.code = code) (hml : c.maxLocals = 4) (hown : s.vm.findClass RL = some m.cls) (hts : ∀ w ∈ BIG, w.before #[Value.ref b] s = true) (hE : ENV (dC, dI) cy s) (hF : SRF (dC, dI) s) (hT : STR (dC, dI) (fun q : Nat => s.heap.size ≤ q) s s.heap) (hX : va_X b L xs s s.heap) (hbl : b < s.heap.size) (hL : L ≤ 3072) {v : Nat → Int32} {f : Nat → Nat → Int32} {v1 : Nat → Int32} {f1 : Nat → Nat → Int32} {w1 : Int64} {g1 : Nat → Int64} {i : Int32} (hi0 : 0 ≤ i.toInt) (hi6 : i.toInt + 6 ≤ L) {H : Heap} {locs : List Loc} {ls : Array Slot} (hIv : XI v) (hIv1 : YI v1) (hCf1 : YC f1) (hRf1 : progOK (f1 4) (f1 5) (v1 9).toInt.toNat) (heq0 : R3 v f v1 f1) (hP : va_P (dC, dI) vwCl (XW cy x0 x v f ++ YW cy y0 r v1 f1 w1 g1) H) (hD : va_D (fun q : Nat => s.heap.size ≤ q) (XW cy x0 x v f ++ YW cy y0 r v1 f1 w1 g1)) (hS : va_S (fun q : Nat => s.heap.size ≤ q) s.heap H locs) (hl : lv_has ls 4 [(3, .int i), (2, .ref y0), (1, .ref x0), (0, .ref b)]) (fin : ∀ (v : Nat → Int32) (f : Nat → Nat → Int32) (v1 : Nat → Int32) (f1 : Nat → Nat → Int32) (w1 : Int64) (g1 : Nat → Int64) (H : Heap) (locs : List Loc) (ls : Array Slot), XI v → YI v1 → YC f1 → progOK (f1 4) (f1 5) (v1 9).toInt.toNat → R3 v f v1 f1 → va_P (dC, dI) vwCl (XW cy x0 x v f ++ YW cy y0 r v1 f1 w1 g1) H → va_D (fun q : Nat => s.heap.size ≤ q) (XW cy x0 x v f ++ YW cy y0 r v1 f1 w1 g1) → va_S (fun q : Nat => s.heap.size ≤ q) s.heap H locs → lv_has ls 4 [(3, .int i), (2, .ref y0), (1, .ref x0), (0, .ref b)] → W p l e room_1 s m #[Value.ref b] below meth c H locs 81 11738 Q (F0 m 1413 ls [])) : W p l e room_1 s m #[Value.ref b] below meth c H locs 81 11738 Q (F0 m 674 ls []) := by
  have hA : ∀ q : Nat, s.heap.size ≤ q → (fun q : Nat => s.heap.size ≤ q) q := fun _ h => h
  have hbA : ¬ (fun q : Nat => s.heap.size ≤ q) b := Nat.not_le.mpr hbl
  refine lv_aload_n hx hb dL_law_674 rfl (lv_at hl 2 rfl) ?_
  refine lv_aload_n hx hb dL_law_675 rfl (lv_at hl 3 rfl) ?_
  refine lv_iload_n hx hb dL_law_676 rfl (lv_at hl 0 rfl) ?_
  refine lv_iconst (v := 1) hx hb dL_law_677 (by decide) ?_
  refine lv_iadd hx hb dL_law_678 ?_
  refine lv_topi (fun t1 et1 => ?_)
  have rg2 := fb_rng i
  have zt1 : t1.toInt = i.toInt + 1 := by rw [et1]; exact add_i rfl (by decide) (by omega) (by omega)
  refine va_sld hx hb hX hbl hbA hS (vp_in_iff.mpr ⟨by omega, by omega⟩) dL_law_679 ?_
  refine lv_topi (fun a3 ea3 => ?_)
  refine lv_aload_n hx hb dL_law_680 rfl (lv_at hl 3 rfl) ?_
  refine lv_iload_n hx hb dL_law_681 rfl (lv_at hl 0 rfl) ?_
  refine lv_iconst (v := 2) hx hb dL_law_682 (by decide) ?_
  refine lv_iadd hx hb dL_law_683 ?_
  refine lv_topi (fun t4 et4 => ?_)
  have zt4 : t4.toInt = i.toInt + 2 := by rw [et4]; exact add_i rfl (by decide) (by omega) (by omega)
  refine va_sld hx hb hX hbl hbA hS (vp_in_iff.mpr ⟨by omega, by omega⟩) dL_law_684 ?_
  refine lv_topi (fun a5 ea5 => ?_)
  refine lv_aload_n hx hb dL_law_685 rfl (lv_at hl 3 rfl) ?_
  refine lv_iload_n hx hb dL_law_686 rfl (lv_at hl 0 rfl) ?_
  refine lv_iconst (v := 3) hx hb dL_law_687 (by decide) ?_
  refine lv_iadd hx hb dL_law_688 ?_
  refine lv_topi (fun t6 et6 => ?_)
  have zt6 : t6.toInt = i.toInt + 3 := by rw [et6]; exact add_i rfl (by decide) (by omega) (by omega)
  refine va_sld hx hb hX hbl hbA hS (vp_in_iff.mpr ⟨by omega, by omega⟩) dL_law_689 ?_
  refine lv_topi (fun a7 ea7 => ?_)
  refine caVi (n := 3) (wr := YW cy y0 r v1 f1 w1 g1) (rest := []) hx hb hml hown hts hE hP hD hS hA (sX_X10_will_1 l dC dI cy x0 x a3 a5 a7 v f hIv) k_937 k_938 k_939 k_101 k_940 (by decide +kernel) ⟨Nat.le_of_ble_eq_true rfl, Nat.le_of_ble_eq_true rfl⟩ [0, 1, 2, 3, 4, 5, 6, 7, 8, 9, 10, 11, 12, 13, 14, 15, 16, 17, 18, 19, 20, 21, 22, 23, 24, 25, 26, 27, 28, 29, 30, 31, 32, 33, 34, 35, 36, 37, 38, 39, 40, 41] [42, 43, 44, 45, 46, 47, 48, 49, 50, 51, 52, 53, 54, 55, 56, 57, 58, 59, 60, 61, 62, 63, 64, 65, 66, 67, 68, 69, 70, 71, 72, 73, 74, 75, 76, 77, 78, 79, 80] (lx1 cy x0 y0 x r v f v1 f1 w1 g1) (lx2 cy x0 y0 x r v f v1 f1 w1 g1) (lx3 cy x0 y0 x r v f v1 f1 w1 g1) lx4 lx5 lx6 0 10 rfl rfl rfl hl.1 rfl (Nat.le_of_ble_eq_true rfl) dL_law_690 ⟨Nat.le_of_ble_eq_true rfl, Nat.le_of_ble_eq_true rfl⟩ (fun r8 u H locs hw hP hD hS => ?_)
  obtain ⟨v9, f10⟩ := u
  obtain ⟨hVx, hFx, hIv9, hk0x, hk1x, hk7x, hk8x, hk9x, hk10x, hk31x, hk32x⟩ := hw
  have hP : va_P (dC, dI) vwCl (YW cy y0 r v1 f1 w1 g1 ++ XW cy x0 x v9 f10) H := hP
  have hD : va_D (fun q : Nat => s.heap.size ≤ q) (YW cy y0 r v1 f1 w1 g1 ++ XW cy x0 x v9 f10) := hD
  refine lv_pop hx hb dL_law_693 rfl ?_
  refine lv_aload_n hx hb dL_law_694 rfl (lv_at hl 1 rfl) ?_
  refine lv_aload_n hx hb dL_law_695 rfl (lv_at hl 3 rfl) ?_
  refine lv_iload_n hx hb dL_law_696 rfl (lv_at hl 0 rfl) ?_
  refine lv_iconst (v := 1) hx hb dL_law_697 (by decide) ?_
  refine lv_iadd hx hb dL_law_698 ?_
  refine tI (y := t1) et1.symm ?_
  refine va_sld hx hb hX hbl hbA hS (vp_in_iff.mpr ⟨by omega, by omega⟩) dL_law_699 ?_
  refine tI (y := a3) ea3.symm ?_
  refine lv_aload_n hx hb dL_law_700 rfl (lv_at hl 3 rfl) ?_
  refine lv_iload_n hx hb dL_law_701 rfl (lv_at hl 0 rfl) ?_
  refine lv_iconst (v := 2) hx hb dL_law_702 (by decide) ?_
  refine lv_iadd hx hb dL_law_703 ?_
  refine tI (y := t4) et4.symm ?_
  refine va_sld hx hb hX hbl hbA hS (vp_in_iff.mpr ⟨by omega, by omega⟩) dL_law_704 ?_
  refine tI (y := a5) ea5.symm ?_
  refine lv_aload_n hx hb dL_law_705 rfl (lv_at hl 3 rfl) ?_
  refine lv_iload_n hx hb dL_law_706 rfl (lv_at hl 0 rfl) ?_
  refine lv_iconst (v := 3) hx hb dL_law_707 (by decide) ?_
  refine lv_iadd hx hb dL_law_708 ?_
  refine tI (y := t6) et6.symm ?_
  refine va_sld hx hb hX hbl hbA hS (vp_in_iff.mpr ⟨by omega, by omega⟩) dL_law_709 ?_
  refine tI (y := a7) ea7.symm ?_
  refine caVi (n := 3) (wr := XW cy x0 x v9 f10) (rest := []) hx hb hml hown hts hE hP hD hS hA (sY_X11_will_1 l dC dI cy y0 r a3 a5 a7 v1 f1 w1 g1 hIv1 hCf1 hRf1) k_1853 k_1854 k_1855 k_114 k_1856 (by decide +kernel) ⟨Nat.le_of_ble_eq_true rfl, Nat.le_of_ble_eq_true rfl⟩ [0, 1, 2, 3, 4, 5, 6, 7, 8, 9, 10, 11, 12, 13, 14, 15, 16, 17, 18, 19, 20, 21, 22, 23, 24, 25, 26, 27, 28, 29, 30, 31, 32, 33, 34, 35, 36, 37, 38] [39, 40, 41, 42, 43, 44, 45, 46, 47, 48, 49, 50, 51, 52, 53, 54, 55, 56, 57, 58, 59, 60, 61, 62, 63, 64, 65, 66, 67, 68, 69, 70, 71, 72, 73, 74, 75, 76, 77, 78, 79, 80] (ly1 cy x0 y0 x r v9 f10 v1 f1 w1 g1) (ly2 cy x0 y0 x r v9 f10 v1 f1 w1 g1) (ly3 cy x0 y0 x r v9 f10 v1 f1 w1 g1) ly4 ly5 ly6 0 11 rfl rfl rfl hl.1 rfl (Nat.le_of_ble_eq_true rfl) dL_law_710 ⟨Nat.le_of_ble_eq_true rfl, Nat.le_of_ble_eq_true rfl⟩ (fun r11 u H locs hw hP hD hS => ?_)
  obtain ⟨v12, f13, w14, g15⟩ := u
  obtain ⟨hVy, hFy, hIv12, hCf13, hRf13, hk0y, hk1y, hk2y, hk3y, hk4y, hk5y, hk8y, hk9y, hk10y, hk13y, hk14y, hk15y, hk17y, hk18y, hk24y, hk25y, hk35y, hk36y, hk38y, hk39y⟩ := hw
  have hP : va_P (dC, dI) vwCl (XW cy x0 x v9 f10 ++ YW cy y0 r v12 f13 w14 g15) H := hP
  have hD : va_D (fun q : Nat => s.heap.size ≤ q) (XW cy x0 x v9 f10 ++ YW cy y0 r v12 f13 w14 g15) := hD
  refine lv_pop hx hb dL_law_713 rfl ?_
  refine lv_goto (tgt := 1413) hx hb dL_law_714 (by decide) ?_
  exact fin v9 f10 v12 f13 w14 g15 _ _ _ hIv9 hIv12 hCf13 hRf13 (R3.keep heq0 (KV.use hVx rfl) (KF.use hFx rfl) (KV.use hVy rfl) (KF.use hFy rfl)) hP hD hS hl
set_option maxHeartbeats 4000000 in
set_option maxRecDepth 100000 in
theorem law_17 {p : Program} {l : Launch} {e : Env} {s : State} {m : MethodId} {below : List Frame} {meth : Method} {c : Code} {dC : Nat → ClassId} {dI : Nat → Nat → Nat} {cy : Nat → ClassId} {b L : Nat} {xs : Nat → Int32} {Q : State → Prop} {x0 y0 : Nat} {x r : Nat → Nat} (hx : p.tables.exec = Jvm.exec) (hb : c.code = code) (hml : c.maxLocals = 4) (hown : s.vm.findClass RL = some m.cls) (hts : ∀ w ∈ BIG, w.before #[Value.ref b] s = true) (hE : ENV (dC, dI) cy s) (hF : SRF (dC, dI) s) (hT : STR (dC, dI) (fun q : Nat => s.heap.size ≤ q) s s.heap) (hX : va_X b L xs s s.heap) (hbl : b < s.heap.size) (hL : L ≤ 3072) {v : Nat → Int32} {f : Nat → Nat → Int32} {v1 : Nat → Int32} {f1 : Nat → Nat → Int32} {w1 : Int64} {g1 : Nat → Int64} {i : Int32} (hi0 : 0 ≤ i.toInt) (hi6 : i.toInt + 6 ≤ L) {H : Heap} {locs : List Loc} {ls : Array Slot} (hIv : XI v) (hIv1 : YI v1) (hCf1 : YC f1) (hRf1 : progOK (f1 4) (f1 5) (v1 9).toInt.toNat) (heq0 : R3 v f v1 f1) (hP : va_P (dC, dI) vwCl (XW cy x0 x v f ++ YW cy y0 r v1 f1 w1 g1) H) (hD : va_D (fun q : Nat => s.heap.size ≤ q) (XW cy x0 x v f ++ YW cy y0 r v1 f1 w1 g1)) (hS : va_S (fun q : Nat => s.heap.size ≤ q) s.heap H locs) (hl : lv_has ls 4 [(3, .int i), (2, .ref y0), (1, .ref x0), (0, .ref b)]) (fin : ∀ (v : Nat → Int32) (f : Nat → Nat → Int32) (v1 : Nat → Int32) (f1 : Nat → Nat → Int32) (w1 : Int64) (g1 : Nat → Int64) (H : Heap) (locs : List Loc) (ls : Array Slot), XI v → YI v1 → YC f1 → progOK (f1 4) (f1 5) (v1 9).toInt.toNat → R3 v f v1 f1 → va_P (dC, dI) vwCl (XW cy x0 x v f ++ YW cy y0 r v1 f1 w1 g1) H → va_D (fun q : Nat => s.heap.size ≤ q) (XW cy x0 x v f ++ YW cy y0 r v1 f1 w1 g1) → va_S (fun q : Nat => s.heap.size ≤ q) s.heap H locs → lv_has ls 4 [(3, .int i), (2, .ref y0), (1, .ref x0), (0, .ref b)] → W p l e room_1 s m #[Value.ref b] below meth c H locs 81 11738 Q (F0 m 1413 ls [])) : W p l e room_1 s m #[Value.ref b] below meth c H locs 81 11738 Q (F0 m 717 ls []) := by
  have hA : ∀ q : Nat, s.heap.size ≤ q → (fun q : Nat => s.heap.size ≤ q) q := fun _ h => h
  have hbA : ¬ (fun q : Nat => s.heap.size ≤ q) b := Nat.not_le.mpr hbl
  refine lv_aload_n hx hb dL_law_717 rfl (lv_at hl 2 rfl) ?_
  refine lv_aload_n hx hb dL_law_718 rfl (lv_at hl 3 rfl) ?_
  refine lv_iload_n hx hb dL_law_719 rfl (lv_at hl 0 rfl) ?_
  refine lv_iconst (v := 1) hx hb dL_law_720 (by decide) ?_
  refine lv_iadd hx hb dL_law_721 ?_
  refine lv_topi (fun t1 et1 => ?_)
  have rg2 := fb_rng i
  have zt1 : t1.toInt = i.toInt + 1 := by rw [et1]; exact add_i rfl (by decide) (by omega) (by omega)
  refine va_sld hx hb hX hbl hbA hS (vp_in_iff.mpr ⟨by omega, by omega⟩) dL_law_722 ?_
  refine lv_topi (fun a3 ea3 => ?_)
  refine caVi (n := 1) (wr := YW cy y0 r v1 f1 w1 g1) (rest := []) hx hb hml hown hts hE hP hD hS hA (sX_X10_out_1 l dC dI cy x0 x a3 v f hIv) k_951 k_952 k_953 k_101 k_954 (by decide +kernel) ⟨Nat.le_of_ble_eq_true rfl, Nat.le_of_ble_eq_true rfl⟩ [0, 1, 2, 3, 4, 5, 6, 7, 8, 9, 10, 11, 12, 13, 14, 15, 16, 17, 18, 19, 20, 21, 22, 23, 24, 25, 26, 27, 28, 29, 30, 31, 32, 33, 34, 35, 36, 37, 38, 39, 40, 41] [42, 43, 44, 45, 46, 47, 48, 49, 50, 51, 52, 53, 54, 55, 56, 57, 58, 59, 60, 61, 62, 63, 64, 65, 66, 67, 68, 69, 70, 71, 72, 73, 74, 75, 76, 77, 78, 79, 80] (lx1 cy x0 y0 x r v f v1 f1 w1 g1) (lx2 cy x0 y0 x r v f v1 f1 w1 g1) (lx3 cy x0 y0 x r v f v1 f1 w1 g1) lx4 lx5 lx6 0 10 rfl rfl rfl hl.1 rfl (Nat.le_of_ble_eq_true rfl) dL_law_723 ⟨Nat.le_of_ble_eq_true rfl, Nat.le_of_ble_eq_true rfl⟩ (fun r4 u H locs hw hP hD hS => ?_)
  obtain ⟨v5, f6⟩ := u
  obtain ⟨hVx, hFx, hIv5, hk0x, hk1x, hk7x, hk8x, hk9x, hk10x, hk31x, hk32x⟩ := hw
  have hP : va_P (dC, dI) vwCl (YW cy y0 r v1 f1 w1 g1 ++ XW cy x0 x v5 f6) H := hP
  have hD : va_D (fun q : Nat => s.heap.size ≤ q) (YW cy y0 r v1 f1 w1 g1 ++ XW cy x0 x v5 f6) := hD
  refine lv_pop hx hb dL_law_726 rfl ?_
  refine lv_aload_n hx hb dL_law_727 rfl (lv_at hl 1 rfl) ?_
  refine lv_aload_n hx hb dL_law_728 rfl (lv_at hl 3 rfl) ?_
  refine lv_iload_n hx hb dL_law_729 rfl (lv_at hl 0 rfl) ?_
  refine lv_iconst (v := 1) hx hb dL_law_730 (by decide) ?_
  refine lv_iadd hx hb dL_law_731 ?_
  refine tI (y := t1) et1.symm ?_
  refine va_sld hx hb hX hbl hbA hS (vp_in_iff.mpr ⟨by omega, by omega⟩) dL_law_732 ?_
  refine tI (y := a3) ea3.symm ?_
  refine caVi (n := 1) (wr := XW cy x0 x v5 f6) (rest := []) hx hb hml hown hts hE hP hD hS hA (sY_X11_out_1 l dC dI cy y0 r a3 v1 f1 w1 g1 hIv1 hCf1 hRf1) k_1857 k_1858 k_1859 k_114 k_1860 (by decide +kernel) ⟨Nat.le_of_ble_eq_true rfl, Nat.le_of_ble_eq_true rfl⟩ [0, 1, 2, 3, 4, 5, 6, 7, 8, 9, 10, 11, 12, 13, 14, 15, 16, 17, 18, 19, 20, 21, 22, 23, 24, 25, 26, 27, 28, 29, 30, 31, 32, 33, 34, 35, 36, 37, 38] [39, 40, 41, 42, 43, 44, 45, 46, 47, 48, 49, 50, 51, 52, 53, 54, 55, 56, 57, 58, 59, 60, 61, 62, 63, 64, 65, 66, 67, 68, 69, 70, 71, 72, 73, 74, 75, 76, 77, 78, 79, 80] (ly1 cy x0 y0 x r v5 f6 v1 f1 w1 g1) (ly2 cy x0 y0 x r v5 f6 v1 f1 w1 g1) (ly3 cy x0 y0 x r v5 f6 v1 f1 w1 g1) ly4 ly5 ly6 0 11 rfl rfl rfl hl.1 rfl (Nat.le_of_ble_eq_true rfl) dL_law_733 ⟨Nat.le_of_ble_eq_true rfl, Nat.le_of_ble_eq_true rfl⟩ (fun r7 u H locs hw hP hD hS => ?_)
  obtain ⟨v8, f9, w10, g11⟩ := u
  obtain ⟨hVy, hFy, hIv8, hCf9, hRf9, hk0y, hk1y, hk2y, hk3y, hk4y, hk5y, hk8y, hk9y, hk10y, hk13y, hk14y, hk15y, hk17y, hk18y, hk24y, hk25y, hk35y, hk36y, hk38y, hk39y⟩ := hw
  have hP : va_P (dC, dI) vwCl (XW cy x0 x v5 f6 ++ YW cy y0 r v8 f9 w10 g11) H := hP
  have hD : va_D (fun q : Nat => s.heap.size ≤ q) (XW cy x0 x v5 f6 ++ YW cy y0 r v8 f9 w10 g11) := hD
  refine lv_pop hx hb dL_law_736 rfl ?_
  refine lv_goto (tgt := 1413) hx hb dL_law_737 (by decide) ?_
  exact fin v5 f6 v8 f9 w10 g11 _ _ _ hIv5 hIv8 hCf9 hRf9 (R3.keep heq0 (KV.use hVx rfl) (KF.use hFx rfl) (KV.use hVy rfl) (KF.use hFy rfl)) hP hD hS hl
set_option maxHeartbeats 4000000 in
set_option maxRecDepth 100000 in
theorem law_18 {p : Program} {l : Launch} {e : Env} {s : State} {m : MethodId} {below : List Frame} {meth : Method} {c : Code} {dC : Nat → ClassId} {dI : Nat → Nat → Nat} {cy : Nat → ClassId} {b L : Nat} {xs : Nat → Int32} {Q : State → Prop} {x0 y0 : Nat} {x r : Nat → Nat} (hx : p.tables.exec = Jvm.exec) (hb : c.code = code) (hml : c.maxLocals = 4) (hown : s.vm.findClass RL = some m.cls) (hts : ∀ w ∈ BIG, w.before #[Value.ref b] s = true) (hE : ENV (dC, dI) cy s) (hF : SRF (dC, dI) s) (hT : STR (dC, dI) (fun q : Nat => s.heap.size ≤ q) s s.heap) (hX : va_X b L xs s s.heap) (hbl : b < s.heap.size) (hL : L ≤ 3072) {v : Nat → Int32} {f : Nat → Nat → Int32} {v1 : Nat → Int32} {f1 : Nat → Nat → Int32} {w1 : Int64} {g1 : Nat → Int64} {i : Int32} (hi0 : 0 ≤ i.toInt) (hi6 : i.toInt + 6 ≤ L) {H : Heap} {locs : List Loc} {ls : Array Slot} (hIv : XI v) (hIv1 : YI v1) (hCf1 : YC f1) (hRf1 : progOK (f1 4) (f1 5) (v1 9).toInt.toNat) (heq0 : R3 v f v1 f1) (hP : va_P (dC, dI) vwCl (XW cy x0 x v f ++ YW cy y0 r v1 f1 w1 g1) H) (hD : va_D (fun q : Nat => s.heap.size ≤ q) (XW cy x0 x v f ++ YW cy y0 r v1 f1 w1 g1)) (hS : va_S (fun q : Nat => s.heap.size ≤ q) s.heap H locs) (hl : lv_has ls 4 [(3, .int i), (2, .ref y0), (1, .ref x0), (0, .ref b)]) (fin : ∀ (v : Nat → Int32) (f : Nat → Nat → Int32) (v1 : Nat → Int32) (f1 : Nat → Nat → Int32) (w1 : Int64) (g1 : Nat → Int64) (H : Heap) (locs : List Loc) (ls : Array Slot), XI v → YI v1 → YC f1 → progOK (f1 4) (f1 5) (v1 9).toInt.toNat → R3 v f v1 f1 → va_P (dC, dI) vwCl (XW cy x0 x v f ++ YW cy y0 r v1 f1 w1 g1) H → va_D (fun q : Nat => s.heap.size ≤ q) (XW cy x0 x v f ++ YW cy y0 r v1 f1 w1 g1) → va_S (fun q : Nat => s.heap.size ≤ q) s.heap H locs → lv_has ls 4 [(3, .int i), (2, .ref y0), (1, .ref x0), (0, .ref b)] → W p l e room_1 s m #[Value.ref b] below meth c H locs 81 11738 Q (F0 m 1413 ls [])) : W p l e room_1 s m #[Value.ref b] below meth c H locs 81 11738 Q (F0 m 740 ls []) := by
  have hA : ∀ q : Nat, s.heap.size ≤ q → (fun q : Nat => s.heap.size ≤ q) q := fun _ h => h
  have hbA : ¬ (fun q : Nat => s.heap.size ≤ q) b := Nat.not_le.mpr hbl
  refine lv_aload_n hx hb dL_law_740 rfl (lv_at hl 2 rfl) ?_
  refine caVi (n := 0) (wr := YW cy y0 r v1 f1 w1 g1) (rest := []) hx hb hml hown hts hE hP hD hS hA (sX_X10_fitted_1 l dC dI cy x0 x  v f hIv) k_959 k_960 k_961 k_101 k_962 (by decide +kernel) ⟨Nat.le_of_ble_eq_true rfl, Nat.le_of_ble_eq_true rfl⟩ [0, 1, 2, 3, 4, 5, 6, 7, 8, 9, 10, 11, 12, 13, 14, 15, 16, 17, 18, 19, 20, 21, 22, 23, 24, 25, 26, 27, 28, 29, 30, 31, 32, 33, 34, 35, 36, 37, 38, 39, 40, 41] [42, 43, 44, 45, 46, 47, 48, 49, 50, 51, 52, 53, 54, 55, 56, 57, 58, 59, 60, 61, 62, 63, 64, 65, 66, 67, 68, 69, 70, 71, 72, 73, 74, 75, 76, 77, 78, 79, 80] (lx1 cy x0 y0 x r v f v1 f1 w1 g1) (lx2 cy x0 y0 x r v f v1 f1 w1 g1) (lx3 cy x0 y0 x r v f v1 f1 w1 g1) lx4 lx5 lx6 0 10 rfl rfl rfl hl.1 rfl (Nat.le_of_ble_eq_true rfl) dL_law_741 ⟨Nat.le_of_ble_eq_true rfl, Nat.le_of_ble_eq_true rfl⟩ (fun r1 u H locs hw hP hD hS => ?_)
  obtain ⟨v2, f3⟩ := u
  obtain ⟨hVx, hFx, hIv2, hk0x, hk1x, hk7x, hk8x, hk9x, hk10x, hk31x, hk32x⟩ := hw
  have hP : va_P (dC, dI) vwCl (YW cy y0 r v1 f1 w1 g1 ++ XW cy x0 x v2 f3) H := hP
  have hD : va_D (fun q : Nat => s.heap.size ≤ q) (YW cy y0 r v1 f1 w1 g1 ++ XW cy x0 x v2 f3) := hD
  refine lv_pop hx hb dL_law_744 rfl ?_
  refine lv_aload_n hx hb dL_law_745 rfl (lv_at hl 1 rfl) ?_
  refine caVi (n := 0) (wr := XW cy x0 x v2 f3) (rest := []) hx hb hml hown hts hE hP hD hS hA (sY_X11_fitted_1 l dC dI cy y0 r  v1 f1 w1 g1 hIv1 hCf1 hRf1) k_1865 k_1866 k_1867 k_114 k_1868 (by decide +kernel) ⟨Nat.le_of_ble_eq_true rfl, Nat.le_of_ble_eq_true rfl⟩ [0, 1, 2, 3, 4, 5, 6, 7, 8, 9, 10, 11, 12, 13, 14, 15, 16, 17, 18, 19, 20, 21, 22, 23, 24, 25, 26, 27, 28, 29, 30, 31, 32, 33, 34, 35, 36, 37, 38] [39, 40, 41, 42, 43, 44, 45, 46, 47, 48, 49, 50, 51, 52, 53, 54, 55, 56, 57, 58, 59, 60, 61, 62, 63, 64, 65, 66, 67, 68, 69, 70, 71, 72, 73, 74, 75, 76, 77, 78, 79, 80] (ly1 cy x0 y0 x r v2 f3 v1 f1 w1 g1) (ly2 cy x0 y0 x r v2 f3 v1 f1 w1 g1) (ly3 cy x0 y0 x r v2 f3 v1 f1 w1 g1) ly4 ly5 ly6 0 11 rfl rfl rfl hl.1 rfl (Nat.le_of_ble_eq_true rfl) dL_law_746 ⟨Nat.le_of_ble_eq_true rfl, Nat.le_of_ble_eq_true rfl⟩ (fun r4 u H locs hw hP hD hS => ?_)
  obtain ⟨v5, f6, w7, g8⟩ := u
  obtain ⟨hVy, hFy, hIv5, hCf6, hRf6, hk0y, hk1y, hk2y, hk3y, hk4y, hk5y, hk8y, hk9y, hk10y, hk13y, hk14y, hk15y, hk17y, hk18y, hk24y, hk25y, hk35y, hk36y, hk38y, hk39y⟩ := hw
  have hP : va_P (dC, dI) vwCl (XW cy x0 x v2 f3 ++ YW cy y0 r v5 f6 w7 g8) H := hP
  have hD : va_D (fun q : Nat => s.heap.size ≤ q) (XW cy x0 x v2 f3 ++ YW cy y0 r v5 f6 w7 g8) := hD
  refine lv_pop hx hb dL_law_749 rfl ?_
  refine lv_goto (tgt := 1413) hx hb dL_law_750 (by decide) ?_
  exact fin v2 f3 v5 f6 w7 g8 _ _ _ hIv2 hIv5 hCf6 hRf6 (R3.keep heq0 (KV.use hVx rfl) (KF.use hFx rfl) (KV.use hVy rfl) (KF.use hFy rfl)) hP hD hS hl
set_option maxHeartbeats 4000000 in
set_option maxRecDepth 100000 in
theorem law_19 {p : Program} {l : Launch} {e : Env} {s : State} {m : MethodId} {below : List Frame} {meth : Method} {c : Code} {dC : Nat → ClassId} {dI : Nat → Nat → Nat} {cy : Nat → ClassId} {b L : Nat} {xs : Nat → Int32} {Q : State → Prop} {x0 y0 : Nat} {x r : Nat → Nat} (hx : p.tables.exec = Jvm.exec) (hb : c.code = code) (hml : c.maxLocals = 4) (hown : s.vm.findClass RL = some m.cls) (hts : ∀ w ∈ BIG, w.before #[Value.ref b] s = true) (hE : ENV (dC, dI) cy s) (hF : SRF (dC, dI) s) (hT : STR (dC, dI) (fun q : Nat => s.heap.size ≤ q) s s.heap) (hX : va_X b L xs s s.heap) (hbl : b < s.heap.size) (hL : L ≤ 3072) {v : Nat → Int32} {f : Nat → Nat → Int32} {v1 : Nat → Int32} {f1 : Nat → Nat → Int32} {w1 : Int64} {g1 : Nat → Int64} {i : Int32} (hi0 : 0 ≤ i.toInt) (hi6 : i.toInt + 6 ≤ L) {H : Heap} {locs : List Loc} {ls : Array Slot} (hIv : XI v) (hIv1 : YI v1) (hCf1 : YC f1) (hRf1 : progOK (f1 4) (f1 5) (v1 9).toInt.toNat) (heq0 : R3 v f v1 f1) (hP : va_P (dC, dI) vwCl (XW cy x0 x v f ++ YW cy y0 r v1 f1 w1 g1) H) (hD : va_D (fun q : Nat => s.heap.size ≤ q) (XW cy x0 x v f ++ YW cy y0 r v1 f1 w1 g1)) (hS : va_S (fun q : Nat => s.heap.size ≤ q) s.heap H locs) (hl : lv_has ls 4 [(3, .int i), (2, .ref y0), (1, .ref x0), (0, .ref b)]) (fin : ∀ (v : Nat → Int32) (f : Nat → Nat → Int32) (v1 : Nat → Int32) (f1 : Nat → Nat → Int32) (w1 : Int64) (g1 : Nat → Int64) (H : Heap) (locs : List Loc) (ls : Array Slot), XI v → YI v1 → YC f1 → progOK (f1 4) (f1 5) (v1 9).toInt.toNat → R3 v f v1 f1 → va_P (dC, dI) vwCl (XW cy x0 x v f ++ YW cy y0 r v1 f1 w1 g1) H → va_D (fun q : Nat => s.heap.size ≤ q) (XW cy x0 x v f ++ YW cy y0 r v1 f1 w1 g1) → va_S (fun q : Nat => s.heap.size ≤ q) s.heap H locs → lv_has ls 4 [(3, .int i), (2, .ref y0), (1, .ref x0), (0, .ref b)] → W p l e room_1 s m #[Value.ref b] below meth c H locs 81 11738 Q (F0 m 1413 ls [])) : W p l e room_1 s m #[Value.ref b] below meth c H locs 81 11738 Q (F0 m 753 ls []) := by
  have hA : ∀ q : Nat, s.heap.size ≤ q → (fun q : Nat => s.heap.size ≤ q) q := fun _ h => h
  have hbA : ¬ (fun q : Nat => s.heap.size ≤ q) b := Nat.not_le.mpr hbl
  refine lv_aload_n hx hb dL_law_753 rfl (lv_at hl 2 rfl) ?_
  refine lv_aload_n hx hb dL_law_754 rfl (lv_at hl 3 rfl) ?_
  refine lv_iload_n hx hb dL_law_755 rfl (lv_at hl 0 rfl) ?_
  refine lv_iconst (v := 1) hx hb dL_law_756 (by decide) ?_
  refine lv_iadd hx hb dL_law_757 ?_
  refine lv_topi (fun t1 et1 => ?_)
  have rg2 := fb_rng i
  have zt1 : t1.toInt = i.toInt + 1 := by rw [et1]; exact add_i rfl (by decide) (by omega) (by omega)
  refine va_sld hx hb hX hbl hbA hS (vp_in_iff.mpr ⟨by omega, by omega⟩) dL_law_758 ?_
  refine lv_topi (fun a3 ea3 => ?_)
  refine caVi (n := 1) (wr := YW cy y0 r v1 f1 w1 g1) (rest := []) hx hb hml hown hts hE hP hD hS hA (sX_X10_dress_1 l dC dI cy x0 x a3 v f hIv) k_967 k_968 k_969 k_101 k_970 (by decide +kernel) ⟨Nat.le_of_ble_eq_true rfl, Nat.le_of_ble_eq_true rfl⟩ [0, 1, 2, 3, 4, 5, 6, 7, 8, 9, 10, 11, 12, 13, 14, 15, 16, 17, 18, 19, 20, 21, 22, 23, 24, 25, 26, 27, 28, 29, 30, 31, 32, 33, 34, 35, 36, 37, 38, 39, 40, 41] [42, 43, 44, 45, 46, 47, 48, 49, 50, 51, 52, 53, 54, 55, 56, 57, 58, 59, 60, 61, 62, 63, 64, 65, 66, 67, 68, 69, 70, 71, 72, 73, 74, 75, 76, 77, 78, 79, 80] (lx1 cy x0 y0 x r v f v1 f1 w1 g1) (lx2 cy x0 y0 x r v f v1 f1 w1 g1) (lx3 cy x0 y0 x r v f v1 f1 w1 g1) lx4 lx5 lx6 0 10 rfl rfl rfl hl.1 rfl (Nat.le_of_ble_eq_true rfl) dL_law_759 ⟨Nat.le_of_ble_eq_true rfl, Nat.le_of_ble_eq_true rfl⟩ (fun r4 u H locs hw hP hD hS => ?_)
  obtain ⟨v5, f6⟩ := u
  obtain ⟨hVx, hFx, hIv5, hk0x, hk1x, hk7x, hk8x, hk9x, hk10x, hk31x, hk32x⟩ := hw
  have hP : va_P (dC, dI) vwCl (YW cy y0 r v1 f1 w1 g1 ++ XW cy x0 x v5 f6) H := hP
  have hD : va_D (fun q : Nat => s.heap.size ≤ q) (YW cy y0 r v1 f1 w1 g1 ++ XW cy x0 x v5 f6) := hD
  refine lv_pop hx hb dL_law_762 rfl ?_
  refine lv_aload_n hx hb dL_law_763 rfl (lv_at hl 1 rfl) ?_
  refine lv_aload_n hx hb dL_law_764 rfl (lv_at hl 3 rfl) ?_
  refine lv_iload_n hx hb dL_law_765 rfl (lv_at hl 0 rfl) ?_
  refine lv_iconst (v := 1) hx hb dL_law_766 (by decide) ?_
  refine lv_iadd hx hb dL_law_767 ?_
  refine tI (y := t1) et1.symm ?_
  refine va_sld hx hb hX hbl hbA hS (vp_in_iff.mpr ⟨by omega, by omega⟩) dL_law_768 ?_
  refine tI (y := a3) ea3.symm ?_
  refine caVi (n := 1) (wr := XW cy x0 x v5 f6) (rest := []) hx hb hml hown hts hE hP hD hS hA (sY_X11_dress_1 l dC dI cy y0 r a3 v1 f1 w1 g1 hIv1 hCf1 hRf1) k_1869 k_1870 k_1871 k_114 k_1872 (by decide +kernel) ⟨Nat.le_of_ble_eq_true rfl, Nat.le_of_ble_eq_true rfl⟩ [0, 1, 2, 3, 4, 5, 6, 7, 8, 9, 10, 11, 12, 13, 14, 15, 16, 17, 18, 19, 20, 21, 22, 23, 24, 25, 26, 27, 28, 29, 30, 31, 32, 33, 34, 35, 36, 37, 38] [39, 40, 41, 42, 43, 44, 45, 46, 47, 48, 49, 50, 51, 52, 53, 54, 55, 56, 57, 58, 59, 60, 61, 62, 63, 64, 65, 66, 67, 68, 69, 70, 71, 72, 73, 74, 75, 76, 77, 78, 79, 80] (ly1 cy x0 y0 x r v5 f6 v1 f1 w1 g1) (ly2 cy x0 y0 x r v5 f6 v1 f1 w1 g1) (ly3 cy x0 y0 x r v5 f6 v1 f1 w1 g1) ly4 ly5 ly6 0 11 rfl rfl rfl hl.1 rfl (Nat.le_of_ble_eq_true rfl) dL_law_769 ⟨Nat.le_of_ble_eq_true rfl, Nat.le_of_ble_eq_true rfl⟩ (fun r7 u H locs hw hP hD hS => ?_)
  obtain ⟨v8, f9, w10, g11⟩ := u
  obtain ⟨hVy, hFy, hIv8, hCf9, hRf9, hk0y, hk1y, hk2y, hk3y, hk4y, hk5y, hk8y, hk9y, hk10y, hk13y, hk14y, hk15y, hk17y, hk18y, hk24y, hk25y, hk35y, hk36y, hk38y, hk39y⟩ := hw
  have hP : va_P (dC, dI) vwCl (XW cy x0 x v5 f6 ++ YW cy y0 r v8 f9 w10 g11) H := hP
  have hD : va_D (fun q : Nat => s.heap.size ≤ q) (XW cy x0 x v5 f6 ++ YW cy y0 r v8 f9 w10 g11) := hD
  refine lv_pop hx hb dL_law_772 rfl ?_
  refine lv_goto (tgt := 1413) hx hb dL_law_773 (by decide) ?_
  exact fin v5 f6 v8 f9 w10 g11 _ _ _ hIv5 hIv8 hCf9 hRf9 (R3.keep heq0 (KV.use hVx rfl) (KF.use hFx rfl) (KV.use hVy rfl) (KF.use hFy rfl)) hP hD hS hl
set_option maxHeartbeats 4000000 in
set_option maxRecDepth 100000 in
theorem law_20 {p : Program} {l : Launch} {e : Env} {s : State} {m : MethodId} {below : List Frame} {meth : Method} {c : Code} {dC : Nat → ClassId} {dI : Nat → Nat → Nat} {cy : Nat → ClassId} {b L : Nat} {xs : Nat → Int32} {Q : State → Prop} {x0 y0 : Nat} {x r : Nat → Nat} (hx : p.tables.exec = Jvm.exec) (hb : c.code = code) (hml : c.maxLocals = 4) (hown : s.vm.findClass RL = some m.cls) (hts : ∀ w ∈ BIG, w.before #[Value.ref b] s = true) (hE : ENV (dC, dI) cy s) (hF : SRF (dC, dI) s) (hT : STR (dC, dI) (fun q : Nat => s.heap.size ≤ q) s s.heap) (hX : va_X b L xs s s.heap) (hbl : b < s.heap.size) (hL : L ≤ 3072) {v : Nat → Int32} {f : Nat → Nat → Int32} {v1 : Nat → Int32} {f1 : Nat → Nat → Int32} {w1 : Int64} {g1 : Nat → Int64} {i : Int32} (hi0 : 0 ≤ i.toInt) (hi6 : i.toInt + 6 ≤ L) {H : Heap} {locs : List Loc} {ls : Array Slot} (hIv : XI v) (hIv1 : YI v1) (hCf1 : YC f1) (hRf1 : progOK (f1 4) (f1 5) (v1 9).toInt.toNat) (heq0 : R3 v f v1 f1) (hP : va_P (dC, dI) vwCl (XW cy x0 x v f ++ YW cy y0 r v1 f1 w1 g1) H) (hD : va_D (fun q : Nat => s.heap.size ≤ q) (XW cy x0 x v f ++ YW cy y0 r v1 f1 w1 g1)) (hS : va_S (fun q : Nat => s.heap.size ≤ q) s.heap H locs) (hl : lv_has ls 4 [(3, .int i), (2, .ref y0), (1, .ref x0), (0, .ref b)]) (fin : ∀ (v : Nat → Int32) (f : Nat → Nat → Int32) (v1 : Nat → Int32) (f1 : Nat → Nat → Int32) (w1 : Int64) (g1 : Nat → Int64) (H : Heap) (locs : List Loc) (ls : Array Slot), XI v → YI v1 → YC f1 → progOK (f1 4) (f1 5) (v1 9).toInt.toNat → R3 v f v1 f1 → va_P (dC, dI) vwCl (XW cy x0 x v f ++ YW cy y0 r v1 f1 w1 g1) H → va_D (fun q : Nat => s.heap.size ≤ q) (XW cy x0 x v f ++ YW cy y0 r v1 f1 w1 g1) → va_S (fun q : Nat => s.heap.size ≤ q) s.heap H locs → lv_has ls 4 [(3, .int i), (2, .ref y0), (1, .ref x0), (0, .ref b)] → W p l e room_1 s m #[Value.ref b] below meth c H locs 81 11738 Q (F0 m 1413 ls [])) : W p l e room_1 s m #[Value.ref b] below meth c H locs 81 11738 Q (F0 m 776 ls []) := by
  have hA : ∀ q : Nat, s.heap.size ≤ q → (fun q : Nat => s.heap.size ≤ q) q := fun _ h => h
  have hbA : ¬ (fun q : Nat => s.heap.size ≤ q) b := Nat.not_le.mpr hbl
  refine lv_aload_n hx hb dL_law_776 rfl (lv_at hl 2 rfl) ?_
  refine lv_aload_n hx hb dL_law_777 rfl (lv_at hl 3 rfl) ?_
  refine lv_iload_n hx hb dL_law_778 rfl (lv_at hl 0 rfl) ?_
  refine lv_iconst (v := 1) hx hb dL_law_779 (by decide) ?_
  refine lv_iadd hx hb dL_law_780 ?_
  refine lv_topi (fun t1 et1 => ?_)
  have rg2 := fb_rng i
  have zt1 : t1.toInt = i.toInt + 1 := by rw [et1]; exact add_i rfl (by decide) (by omega) (by omega)
  refine va_sld hx hb hX hbl hbA hS (vp_in_iff.mpr ⟨by omega, by omega⟩) dL_law_781 ?_
  refine lv_topi (fun a3 ea3 => ?_)
  refine lv_aload_n hx hb dL_law_782 rfl (lv_at hl 3 rfl) ?_
  refine lv_iload_n hx hb dL_law_783 rfl (lv_at hl 0 rfl) ?_
  refine lv_iconst (v := 2) hx hb dL_law_784 (by decide) ?_
  refine lv_iadd hx hb dL_law_785 ?_
  refine lv_topi (fun t4 et4 => ?_)
  have zt4 : t4.toInt = i.toInt + 2 := by rw [et4]; exact add_i rfl (by decide) (by omega) (by omega)
  refine va_sld hx hb hX hbl hbA hS (vp_in_iff.mpr ⟨by omega, by omega⟩) dL_law_786 ?_
  refine lv_topi (fun a5 ea5 => ?_)
  refine lv_aload_n hx hb dL_law_787 rfl (lv_at hl 3 rfl) ?_
  refine lv_iload_n hx hb dL_law_788 rfl (lv_at hl 0 rfl) ?_
  refine lv_iconst (v := 3) hx hb dL_law_789 (by decide) ?_
  refine lv_iadd hx hb dL_law_790 ?_
  refine lv_topi (fun t6 et6 => ?_)
  have zt6 : t6.toInt = i.toInt + 3 := by rw [et6]; exact add_i rfl (by decide) (by omega) (by omega)
  refine va_sld hx hb hX hbl hbA hS (vp_in_iff.mpr ⟨by omega, by omega⟩) dL_law_791 ?_
  refine lv_topi (fun a7 ea7 => ?_)
  refine caVi (n := 3) (wr := YW cy y0 r v1 f1 w1 g1) (rest := []) hx hb hml hown hts hE hP hD hS hA (sX_X10_sewing_1 l dC dI cy x0 x a3 a5 a7 v f hIv) k_999 k_1000 k_1001 k_101 k_1002 (by decide +kernel) ⟨Nat.le_of_ble_eq_true rfl, Nat.le_of_ble_eq_true rfl⟩ [0, 1, 2, 3, 4, 5, 6, 7, 8, 9, 10, 11, 12, 13, 14, 15, 16, 17, 18, 19, 20, 21, 22, 23, 24, 25, 26, 27, 28, 29, 30, 31, 32, 33, 34, 35, 36, 37, 38, 39, 40, 41] [42, 43, 44, 45, 46, 47, 48, 49, 50, 51, 52, 53, 54, 55, 56, 57, 58, 59, 60, 61, 62, 63, 64, 65, 66, 67, 68, 69, 70, 71, 72, 73, 74, 75, 76, 77, 78, 79, 80] (lx1 cy x0 y0 x r v f v1 f1 w1 g1) (lx2 cy x0 y0 x r v f v1 f1 w1 g1) (lx3 cy x0 y0 x r v f v1 f1 w1 g1) lx4 lx5 lx6 0 10 rfl rfl rfl hl.1 rfl (Nat.le_of_ble_eq_true rfl) dL_law_792 ⟨Nat.le_of_ble_eq_true rfl, Nat.le_of_ble_eq_true rfl⟩ (fun r8 u H locs hw hP hD hS => ?_)
  obtain ⟨v9, f10⟩ := u
  obtain ⟨hVx, hFx, hIv9, hk0x, hk1x, hk7x, hk8x, hk9x, hk10x, hk31x, hk32x⟩ := hw
  have hP : va_P (dC, dI) vwCl (YW cy y0 r v1 f1 w1 g1 ++ XW cy x0 x v9 f10) H := hP
  have hD : va_D (fun q : Nat => s.heap.size ≤ q) (YW cy y0 r v1 f1 w1 g1 ++ XW cy x0 x v9 f10) := hD
  refine lv_pop hx hb dL_law_795 rfl ?_
  refine lv_aload_n hx hb dL_law_796 rfl (lv_at hl 1 rfl) ?_
  refine lv_aload_n hx hb dL_law_797 rfl (lv_at hl 3 rfl) ?_
  refine lv_iload_n hx hb dL_law_798 rfl (lv_at hl 0 rfl) ?_
  refine lv_iconst (v := 1) hx hb dL_law_799 (by decide) ?_
  refine lv_iadd hx hb dL_law_800 ?_
  refine tI (y := t1) et1.symm ?_
  refine va_sld hx hb hX hbl hbA hS (vp_in_iff.mpr ⟨by omega, by omega⟩) dL_law_801 ?_
  refine tI (y := a3) ea3.symm ?_
  refine lv_aload_n hx hb dL_law_802 rfl (lv_at hl 3 rfl) ?_
  refine lv_iload_n hx hb dL_law_803 rfl (lv_at hl 0 rfl) ?_
  refine lv_iconst (v := 2) hx hb dL_law_804 (by decide) ?_
  refine lv_iadd hx hb dL_law_805 ?_
  refine tI (y := t4) et4.symm ?_
  refine va_sld hx hb hX hbl hbA hS (vp_in_iff.mpr ⟨by omega, by omega⟩) dL_law_806 ?_
  refine tI (y := a5) ea5.symm ?_
  refine lv_aload_n hx hb dL_law_807 rfl (lv_at hl 3 rfl) ?_
  refine lv_iload_n hx hb dL_law_808 rfl (lv_at hl 0 rfl) ?_
  refine lv_iconst (v := 3) hx hb dL_law_809 (by decide) ?_
  refine lv_iadd hx hb dL_law_810 ?_
  refine tI (y := t6) et6.symm ?_
  refine va_sld hx hb hX hbl hbA hS (vp_in_iff.mpr ⟨by omega, by omega⟩) dL_law_811 ?_
  refine tI (y := a7) ea7.symm ?_
  refine caVi (n := 3) (wr := XW cy x0 x v9 f10) (rest := []) hx hb hml hown hts hE hP hD hS hA (sY_X11_sewing_1 l dC dI cy y0 r a3 a5 a7 v1 f1 w1 g1 hIv1 hCf1 hRf1) k_1888 k_1889 k_1890 k_114 k_1891 (by decide +kernel) ⟨Nat.le_of_ble_eq_true rfl, Nat.le_of_ble_eq_true rfl⟩ [0, 1, 2, 3, 4, 5, 6, 7, 8, 9, 10, 11, 12, 13, 14, 15, 16, 17, 18, 19, 20, 21, 22, 23, 24, 25, 26, 27, 28, 29, 30, 31, 32, 33, 34, 35, 36, 37, 38] [39, 40, 41, 42, 43, 44, 45, 46, 47, 48, 49, 50, 51, 52, 53, 54, 55, 56, 57, 58, 59, 60, 61, 62, 63, 64, 65, 66, 67, 68, 69, 70, 71, 72, 73, 74, 75, 76, 77, 78, 79, 80] (ly1 cy x0 y0 x r v9 f10 v1 f1 w1 g1) (ly2 cy x0 y0 x r v9 f10 v1 f1 w1 g1) (ly3 cy x0 y0 x r v9 f10 v1 f1 w1 g1) ly4 ly5 ly6 0 11 rfl rfl rfl hl.1 rfl (Nat.le_of_ble_eq_true rfl) dL_law_812 ⟨Nat.le_of_ble_eq_true rfl, Nat.le_of_ble_eq_true rfl⟩ (fun r11 u H locs hw hP hD hS => ?_)
  obtain ⟨v12, f13, w14, g15⟩ := u
  obtain ⟨hVy, hFy, hIv12, hCf13, hRf13, hk0y, hk1y, hk2y, hk3y, hk4y, hk5y, hk8y, hk9y, hk10y, hk13y, hk14y, hk15y, hk17y, hk18y, hk24y, hk25y, hk35y, hk36y, hk38y, hk39y⟩ := hw
  have hP : va_P (dC, dI) vwCl (XW cy x0 x v9 f10 ++ YW cy y0 r v12 f13 w14 g15) H := hP
  have hD : va_D (fun q : Nat => s.heap.size ≤ q) (XW cy x0 x v9 f10 ++ YW cy y0 r v12 f13 w14 g15) := hD
  refine lv_pop hx hb dL_law_815 rfl ?_
  refine lv_goto (tgt := 1413) hx hb dL_law_816 (by decide) ?_
  exact fin v9 f10 v12 f13 w14 g15 _ _ _ hIv9 hIv12 hCf13 hRf13 (R3.keep heq0 (KV.use hVx rfl) (KF.use hFx rfl) (KV.use hVy rfl) (KF.use hFy rfl)) hP hD hS hl
set_option maxHeartbeats 4000000 in
set_option maxRecDepth 100000 in
theorem law_21 {p : Program} {l : Launch} {e : Env} {s : State} {m : MethodId} {below : List Frame} {meth : Method} {c : Code} {dC : Nat → ClassId} {dI : Nat → Nat → Nat} {cy : Nat → ClassId} {b L : Nat} {xs : Nat → Int32} {Q : State → Prop} {x0 y0 : Nat} {x r : Nat → Nat} (hx : p.tables.exec = Jvm.exec) (hb : c.code = code) (hml : c.maxLocals = 4) (hown : s.vm.findClass RL = some m.cls) (hts : ∀ w ∈ BIG, w.before #[Value.ref b] s = true) (hE : ENV (dC, dI) cy s) (hF : SRF (dC, dI) s) (hT : STR (dC, dI) (fun q : Nat => s.heap.size ≤ q) s s.heap) (hX : va_X b L xs s s.heap) (hbl : b < s.heap.size) (hL : L ≤ 3072) {v : Nat → Int32} {f : Nat → Nat → Int32} {v1 : Nat → Int32} {f1 : Nat → Nat → Int32} {w1 : Int64} {g1 : Nat → Int64} {i : Int32} (hi0 : 0 ≤ i.toInt) (hi6 : i.toInt + 6 ≤ L) {H : Heap} {locs : List Loc} {ls : Array Slot} (hIv : XI v) (hIv1 : YI v1) (hCf1 : YC f1) (hRf1 : progOK (f1 4) (f1 5) (v1 9).toInt.toNat) (heq0 : R3 v f v1 f1) (hP : va_P (dC, dI) vwCl (XW cy x0 x v f ++ YW cy y0 r v1 f1 w1 g1) H) (hD : va_D (fun q : Nat => s.heap.size ≤ q) (XW cy x0 x v f ++ YW cy y0 r v1 f1 w1 g1)) (hS : va_S (fun q : Nat => s.heap.size ≤ q) s.heap H locs) (hl : lv_has ls 4 [(3, .int i), (2, .ref y0), (1, .ref x0), (0, .ref b)]) (fin : ∀ (v : Nat → Int32) (f : Nat → Nat → Int32) (v1 : Nat → Int32) (f1 : Nat → Nat → Int32) (w1 : Int64) (g1 : Nat → Int64) (H : Heap) (locs : List Loc) (ls : Array Slot), XI v → YI v1 → YC f1 → progOK (f1 4) (f1 5) (v1 9).toInt.toNat → R3 v f v1 f1 → va_P (dC, dI) vwCl (XW cy x0 x v f ++ YW cy y0 r v1 f1 w1 g1) H → va_D (fun q : Nat => s.heap.size ≤ q) (XW cy x0 x v f ++ YW cy y0 r v1 f1 w1 g1) → va_S (fun q : Nat => s.heap.size ≤ q) s.heap H locs → lv_has ls 4 [(3, .int i), (2, .ref y0), (1, .ref x0), (0, .ref b)] → W p l e room_1 s m #[Value.ref b] below meth c H locs 81 11738 Q (F0 m 1413 ls [])) : W p l e room_1 s m #[Value.ref b] below meth c H locs 81 11738 Q (F0 m 819 ls []) := by
  have hA : ∀ q : Nat, s.heap.size ≤ q → (fun q : Nat => s.heap.size ≤ q) q := fun _ h => h
  have hbA : ¬ (fun q : Nat => s.heap.size ≤ q) b := Nat.not_le.mpr hbl
  refine lv_aload_n hx hb dL_law_819 rfl (lv_at hl 2 rfl) ?_
  refine lv_aload_n hx hb dL_law_820 rfl (lv_at hl 3 rfl) ?_
  refine lv_iload_n hx hb dL_law_821 rfl (lv_at hl 0 rfl) ?_
  refine lv_iconst (v := 1) hx hb dL_law_822 (by decide) ?_
  refine lv_iadd hx hb dL_law_823 ?_
  refine lv_topi (fun t1 et1 => ?_)
  have rg2 := fb_rng i
  have zt1 : t1.toInt = i.toInt + 1 := by rw [et1]; exact add_i rfl (by decide) (by omega) (by omega)
  refine va_sld hx hb hX hbl hbA hS (vp_in_iff.mpr ⟨by omega, by omega⟩) dL_law_824 ?_
  refine lv_topi (fun a3 ea3 => ?_)
  refine caVi (n := 1) (wr := YW cy y0 r v1 f1 w1 g1) (rest := []) hx hb hml hown hts hE hP hD hS hA (sX_X10_rota_1 l dC dI cy x0 x a3 v f hIv) k_1020 k_1021 k_1022 k_101 k_1023 (by decide +kernel) ⟨Nat.le_of_ble_eq_true rfl, Nat.le_of_ble_eq_true rfl⟩ [0, 1, 2, 3, 4, 5, 6, 7, 8, 9, 10, 11, 12, 13, 14, 15, 16, 17, 18, 19, 20, 21, 22, 23, 24, 25, 26, 27, 28, 29, 30, 31, 32, 33, 34, 35, 36, 37, 38, 39, 40, 41] [42, 43, 44, 45, 46, 47, 48, 49, 50, 51, 52, 53, 54, 55, 56, 57, 58, 59, 60, 61, 62, 63, 64, 65, 66, 67, 68, 69, 70, 71, 72, 73, 74, 75, 76, 77, 78, 79, 80] (lx1 cy x0 y0 x r v f v1 f1 w1 g1) (lx2 cy x0 y0 x r v f v1 f1 w1 g1) (lx3 cy x0 y0 x r v f v1 f1 w1 g1) lx4 lx5 lx6 0 10 rfl rfl rfl hl.1 rfl (Nat.le_of_ble_eq_true rfl) dL_law_825 ⟨Nat.le_of_ble_eq_true rfl, Nat.le_of_ble_eq_true rfl⟩ (fun r4 u H locs hw hP hD hS => ?_)
  obtain ⟨v5, f6⟩ := u
  obtain ⟨hVx, hFx, hIv5, hk0x, hk1x, hk7x, hk8x, hk9x, hk10x, hk31x, hk32x⟩ := hw
  have hP : va_P (dC, dI) vwCl (YW cy y0 r v1 f1 w1 g1 ++ XW cy x0 x v5 f6) H := hP
  have hD : va_D (fun q : Nat => s.heap.size ≤ q) (YW cy y0 r v1 f1 w1 g1 ++ XW cy x0 x v5 f6) := hD
  refine lv_pop hx hb dL_law_828 rfl ?_
  refine lv_aload_n hx hb dL_law_829 rfl (lv_at hl 1 rfl) ?_
  refine lv_aload_n hx hb dL_law_830 rfl (lv_at hl 3 rfl) ?_
  refine lv_iload_n hx hb dL_law_831 rfl (lv_at hl 0 rfl) ?_
  refine lv_iconst (v := 1) hx hb dL_law_832 (by decide) ?_
  refine lv_iadd hx hb dL_law_833 ?_
  refine tI (y := t1) et1.symm ?_
  refine va_sld hx hb hX hbl hbA hS (vp_in_iff.mpr ⟨by omega, by omega⟩) dL_law_834 ?_
  refine tI (y := a3) ea3.symm ?_
  refine caVi (n := 1) (wr := XW cy x0 x v5 f6) (rest := []) hx hb hml hown hts hE hP hD hS hA (sY_X11_rota_1 l dC dI cy y0 r a3 v1 f1 w1 g1 hIv1 hCf1 hRf1) k_1896 k_1897 k_1898 k_114 k_1899 (by decide +kernel) ⟨Nat.le_of_ble_eq_true rfl, Nat.le_of_ble_eq_true rfl⟩ [0, 1, 2, 3, 4, 5, 6, 7, 8, 9, 10, 11, 12, 13, 14, 15, 16, 17, 18, 19, 20, 21, 22, 23, 24, 25, 26, 27, 28, 29, 30, 31, 32, 33, 34, 35, 36, 37, 38] [39, 40, 41, 42, 43, 44, 45, 46, 47, 48, 49, 50, 51, 52, 53, 54, 55, 56, 57, 58, 59, 60, 61, 62, 63, 64, 65, 66, 67, 68, 69, 70, 71, 72, 73, 74, 75, 76, 77, 78, 79, 80] (ly1 cy x0 y0 x r v5 f6 v1 f1 w1 g1) (ly2 cy x0 y0 x r v5 f6 v1 f1 w1 g1) (ly3 cy x0 y0 x r v5 f6 v1 f1 w1 g1) ly4 ly5 ly6 0 11 rfl rfl rfl hl.1 rfl (Nat.le_of_ble_eq_true rfl) dL_law_835 ⟨Nat.le_of_ble_eq_true rfl, Nat.le_of_ble_eq_true rfl⟩ (fun r7 u H locs hw hP hD hS => ?_)
  obtain ⟨v8, f9, w10, g11⟩ := u
  obtain ⟨hVy, hFy, hIv8, hCf9, hRf9, hk0y, hk1y, hk2y, hk3y, hk4y, hk5y, hk8y, hk9y, hk10y, hk13y, hk14y, hk15y, hk17y, hk18y, hk24y, hk25y, hk35y, hk36y, hk38y, hk39y⟩ := hw
  have hP : va_P (dC, dI) vwCl (XW cy x0 x v5 f6 ++ YW cy y0 r v8 f9 w10 g11) H := hP
  have hD : va_D (fun q : Nat => s.heap.size ≤ q) (XW cy x0 x v5 f6 ++ YW cy y0 r v8 f9 w10 g11) := hD
  refine lv_pop hx hb dL_law_838 rfl ?_
  refine lv_goto (tgt := 1413) hx hb dL_law_839 (by decide) ?_
  exact fin v5 f6 v8 f9 w10 g11 _ _ _ hIv5 hIv8 hCf9 hRf9 (R3.keep heq0 (KV.use hVx rfl) (KF.use hFx rfl) (KV.use hVy rfl) (KF.use hFy rfl)) hP hD hS hl
set_option maxHeartbeats 4000000 in
set_option maxRecDepth 100000 in
theorem law_22 {p : Program} {l : Launch} {e : Env} {s : State} {m : MethodId} {below : List Frame} {meth : Method} {c : Code} {dC : Nat → ClassId} {dI : Nat → Nat → Nat} {cy : Nat → ClassId} {b L : Nat} {xs : Nat → Int32} {Q : State → Prop} {x0 y0 : Nat} {x r : Nat → Nat} (hx : p.tables.exec = Jvm.exec) (hb : c.code = code) (hml : c.maxLocals = 4) (hown : s.vm.findClass RL = some m.cls) (hts : ∀ w ∈ BIG, w.before #[Value.ref b] s = true) (hE : ENV (dC, dI) cy s) (hF : SRF (dC, dI) s) (hT : STR (dC, dI) (fun q : Nat => s.heap.size ≤ q) s s.heap) (hX : va_X b L xs s s.heap) (hbl : b < s.heap.size) (hL : L ≤ 3072) {v : Nat → Int32} {f : Nat → Nat → Int32} {v1 : Nat → Int32} {f1 : Nat → Nat → Int32} {w1 : Int64} {g1 : Nat → Int64} {i : Int32} (hi0 : 0 ≤ i.toInt) (hi6 : i.toInt + 6 ≤ L) {H : Heap} {locs : List Loc} {ls : Array Slot} (hIv : XI v) (hIv1 : YI v1) (hCf1 : YC f1) (hRf1 : progOK (f1 4) (f1 5) (v1 9).toInt.toNat) (heq0 : R3 v f v1 f1) (hP : va_P (dC, dI) vwCl (XW cy x0 x v f ++ YW cy y0 r v1 f1 w1 g1) H) (hD : va_D (fun q : Nat => s.heap.size ≤ q) (XW cy x0 x v f ++ YW cy y0 r v1 f1 w1 g1)) (hS : va_S (fun q : Nat => s.heap.size ≤ q) s.heap H locs) (hl : lv_has ls 4 [(3, .int i), (2, .ref y0), (1, .ref x0), (0, .ref b)]) (fin : ∀ (v : Nat → Int32) (f : Nat → Nat → Int32) (v1 : Nat → Int32) (f1 : Nat → Nat → Int32) (w1 : Int64) (g1 : Nat → Int64) (H : Heap) (locs : List Loc) (ls : Array Slot), XI v → YI v1 → YC f1 → progOK (f1 4) (f1 5) (v1 9).toInt.toNat → R3 v f v1 f1 → va_P (dC, dI) vwCl (XW cy x0 x v f ++ YW cy y0 r v1 f1 w1 g1) H → va_D (fun q : Nat => s.heap.size ≤ q) (XW cy x0 x v f ++ YW cy y0 r v1 f1 w1 g1) → va_S (fun q : Nat => s.heap.size ≤ q) s.heap H locs → lv_has ls 4 [(3, .int i), (2, .ref y0), (1, .ref x0), (0, .ref b)] → W p l e room_1 s m #[Value.ref b] below meth c H locs 81 11738 Q (F0 m 1413 ls [])) : W p l e room_1 s m #[Value.ref b] below meth c H locs 81 11738 Q (F0 m 842 ls []) := by
  have hA : ∀ q : Nat, s.heap.size ≤ q → (fun q : Nat => s.heap.size ≤ q) q := fun _ h => h
  have hbA : ¬ (fun q : Nat => s.heap.size ≤ q) b := Nat.not_le.mpr hbl
  refine lv_aload_n hx hb dL_law_842 rfl (lv_at hl 2 rfl) ?_
  refine lv_aload_n hx hb dL_law_843 rfl (lv_at hl 3 rfl) ?_
  refine lv_iload_n hx hb dL_law_844 rfl (lv_at hl 0 rfl) ?_
  refine lv_iconst (v := 1) hx hb dL_law_845 (by decide) ?_
  refine lv_iadd hx hb dL_law_846 ?_
  refine lv_topi (fun t1 et1 => ?_)
  have rg2 := fb_rng i
  have zt1 : t1.toInt = i.toInt + 1 := by rw [et1]; exact add_i rfl (by decide) (by omega) (by omega)
  refine va_sld hx hb hX hbl hbA hS (vp_in_iff.mpr ⟨by omega, by omega⟩) dL_law_847 ?_
  refine lv_topi (fun a3 ea3 => ?_)
  refine caVi (n := 1) (wr := YW cy y0 r v1 f1 w1 g1) (rest := []) hx hb hml hown hts hE hP hD hS hA (sX_X10_change_1 l dC dI cy x0 x a3 v f hIv) k_1033 k_1034 k_1035 k_101 k_1036 (by decide +kernel) ⟨Nat.le_of_ble_eq_true rfl, Nat.le_of_ble_eq_true rfl⟩ [0, 1, 2, 3, 4, 5, 6, 7, 8, 9, 10, 11, 12, 13, 14, 15, 16, 17, 18, 19, 20, 21, 22, 23, 24, 25, 26, 27, 28, 29, 30, 31, 32, 33, 34, 35, 36, 37, 38, 39, 40, 41] [42, 43, 44, 45, 46, 47, 48, 49, 50, 51, 52, 53, 54, 55, 56, 57, 58, 59, 60, 61, 62, 63, 64, 65, 66, 67, 68, 69, 70, 71, 72, 73, 74, 75, 76, 77, 78, 79, 80] (lx1 cy x0 y0 x r v f v1 f1 w1 g1) (lx2 cy x0 y0 x r v f v1 f1 w1 g1) (lx3 cy x0 y0 x r v f v1 f1 w1 g1) lx4 lx5 lx6 0 10 rfl rfl rfl hl.1 rfl (Nat.le_of_ble_eq_true rfl) dL_law_848 ⟨Nat.le_of_ble_eq_true rfl, Nat.le_of_ble_eq_true rfl⟩ (fun r4 u H locs hw hP hD hS => ?_)
  obtain ⟨v5, f6⟩ := u
  obtain ⟨hVx, hFx, hIv5, hk0x, hk1x, hk7x, hk8x, hk9x, hk10x, hk31x, hk32x⟩ := hw
  have hP : va_P (dC, dI) vwCl (YW cy y0 r v1 f1 w1 g1 ++ XW cy x0 x v5 f6) H := hP
  have hD : va_D (fun q : Nat => s.heap.size ≤ q) (YW cy y0 r v1 f1 w1 g1 ++ XW cy x0 x v5 f6) := hD
  refine lv_pop hx hb dL_law_851 rfl ?_
  refine lv_aload_n hx hb dL_law_852 rfl (lv_at hl 1 rfl) ?_
  refine lv_aload_n hx hb dL_law_853 rfl (lv_at hl 3 rfl) ?_
  refine lv_iload_n hx hb dL_law_854 rfl (lv_at hl 0 rfl) ?_
  refine lv_iconst (v := 1) hx hb dL_law_855 (by decide) ?_
  refine lv_iadd hx hb dL_law_856 ?_
  refine tI (y := t1) et1.symm ?_
  refine va_sld hx hb hX hbl hbA hS (vp_in_iff.mpr ⟨by omega, by omega⟩) dL_law_857 ?_
  refine tI (y := a3) ea3.symm ?_
  refine caVi (n := 1) (wr := XW cy x0 x v5 f6) (rest := []) hx hb hml hown hts hE hP hD hS hA (sY_X11_change_1 l dC dI cy y0 r a3 v1 f1 w1 g1 hIv1 hCf1 hRf1) k_1903 k_1904 k_1905 k_114 k_1906 (by decide +kernel) ⟨Nat.le_of_ble_eq_true rfl, Nat.le_of_ble_eq_true rfl⟩ [0, 1, 2, 3, 4, 5, 6, 7, 8, 9, 10, 11, 12, 13, 14, 15, 16, 17, 18, 19, 20, 21, 22, 23, 24, 25, 26, 27, 28, 29, 30, 31, 32, 33, 34, 35, 36, 37, 38] [39, 40, 41, 42, 43, 44, 45, 46, 47, 48, 49, 50, 51, 52, 53, 54, 55, 56, 57, 58, 59, 60, 61, 62, 63, 64, 65, 66, 67, 68, 69, 70, 71, 72, 73, 74, 75, 76, 77, 78, 79, 80] (ly1 cy x0 y0 x r v5 f6 v1 f1 w1 g1) (ly2 cy x0 y0 x r v5 f6 v1 f1 w1 g1) (ly3 cy x0 y0 x r v5 f6 v1 f1 w1 g1) ly4 ly5 ly6 0 11 rfl rfl rfl hl.1 rfl (Nat.le_of_ble_eq_true rfl) dL_law_858 ⟨Nat.le_of_ble_eq_true rfl, Nat.le_of_ble_eq_true rfl⟩ (fun r7 u H locs hw hP hD hS => ?_)
  obtain ⟨v8, f9, w10, g11⟩ := u
  obtain ⟨hVy, hFy, hIv8, hCf9, hRf9, hk0y, hk1y, hk2y, hk3y, hk4y, hk5y, hk8y, hk9y, hk10y, hk13y, hk14y, hk15y, hk17y, hk18y, hk24y, hk25y, hk35y, hk36y, hk38y, hk39y⟩ := hw
  have hP : va_P (dC, dI) vwCl (XW cy x0 x v5 f6 ++ YW cy y0 r v8 f9 w10 g11) H := hP
  have hD : va_D (fun q : Nat => s.heap.size ≤ q) (XW cy x0 x v5 f6 ++ YW cy y0 r v8 f9 w10 g11) := hD
  refine lv_pop hx hb dL_law_861 rfl ?_
  refine lv_goto (tgt := 1413) hx hb dL_law_862 (by decide) ?_
  exact fin v5 f6 v8 f9 w10 g11 _ _ _ hIv5 hIv8 hCf9 hRf9 (R3.keep heq0 (KV.use hVx rfl) (KF.use hFx rfl) (KV.use hVy rfl) (KF.use hFy rfl)) hP hD hS hl
set_option maxHeartbeats 4000000 in
set_option maxRecDepth 100000 in
theorem law_23 {p : Program} {l : Launch} {e : Env} {s : State} {m : MethodId} {below : List Frame} {meth : Method} {c : Code} {dC : Nat → ClassId} {dI : Nat → Nat → Nat} {cy : Nat → ClassId} {b L : Nat} {xs : Nat → Int32} {Q : State → Prop} {x0 y0 : Nat} {x r : Nat → Nat} (hx : p.tables.exec = Jvm.exec) (hb : c.code = code) (hml : c.maxLocals = 4) (hown : s.vm.findClass RL = some m.cls) (hts : ∀ w ∈ BIG, w.before #[Value.ref b] s = true) (hE : ENV (dC, dI) cy s) (hF : SRF (dC, dI) s) (hT : STR (dC, dI) (fun q : Nat => s.heap.size ≤ q) s s.heap) (hX : va_X b L xs s s.heap) (hbl : b < s.heap.size) (hL : L ≤ 3072) {v : Nat → Int32} {f : Nat → Nat → Int32} {v1 : Nat → Int32} {f1 : Nat → Nat → Int32} {w1 : Int64} {g1 : Nat → Int64} {i : Int32} (hi0 : 0 ≤ i.toInt) (hi6 : i.toInt + 6 ≤ L) {H : Heap} {locs : List Loc} {ls : Array Slot} (hIv : XI v) (hIv1 : YI v1) (hCf1 : YC f1) (hRf1 : progOK (f1 4) (f1 5) (v1 9).toInt.toNat) (heq0 : R3 v f v1 f1) (hP : va_P (dC, dI) vwCl (XW cy x0 x v f ++ YW cy y0 r v1 f1 w1 g1) H) (hD : va_D (fun q : Nat => s.heap.size ≤ q) (XW cy x0 x v f ++ YW cy y0 r v1 f1 w1 g1)) (hS : va_S (fun q : Nat => s.heap.size ≤ q) s.heap H locs) (hl : lv_has ls 4 [(3, .int i), (2, .ref y0), (1, .ref x0), (0, .ref b)]) (fin : ∀ (v : Nat → Int32) (f : Nat → Nat → Int32) (v1 : Nat → Int32) (f1 : Nat → Nat → Int32) (w1 : Int64) (g1 : Nat → Int64) (H : Heap) (locs : List Loc) (ls : Array Slot), XI v → YI v1 → YC f1 → progOK (f1 4) (f1 5) (v1 9).toInt.toNat → R3 v f v1 f1 → va_P (dC, dI) vwCl (XW cy x0 x v f ++ YW cy y0 r v1 f1 w1 g1) H → va_D (fun q : Nat => s.heap.size ≤ q) (XW cy x0 x v f ++ YW cy y0 r v1 f1 w1 g1) → va_S (fun q : Nat => s.heap.size ≤ q) s.heap H locs → lv_has ls 4 [(3, .int i), (2, .ref y0), (1, .ref x0), (0, .ref b)] → W p l e room_1 s m #[Value.ref b] below meth c H locs 81 11738 Q (F0 m 1413 ls [])) : W p l e room_1 s m #[Value.ref b] below meth c H locs 81 11738 Q (F0 m 865 ls []) := by
  have hA : ∀ q : Nat, s.heap.size ≤ q → (fun q : Nat => s.heap.size ≤ q) q := fun _ h => h
  have hbA : ¬ (fun q : Nat => s.heap.size ≤ q) b := Nat.not_le.mpr hbl
  refine lv_aload_n hx hb dL_law_865 rfl (lv_at hl 2 rfl) ?_
  refine lv_aload_n hx hb dL_law_866 rfl (lv_at hl 3 rfl) ?_
  refine lv_iload_n hx hb dL_law_867 rfl (lv_at hl 0 rfl) ?_
  refine lv_iconst (v := 1) hx hb dL_law_868 (by decide) ?_
  refine lv_iadd hx hb dL_law_869 ?_
  refine lv_topi (fun t1 et1 => ?_)
  have rg2 := fb_rng i
  have zt1 : t1.toInt = i.toInt + 1 := by rw [et1]; exact add_i rfl (by decide) (by omega) (by omega)
  refine va_sld hx hb hX hbl hbA hS (vp_in_iff.mpr ⟨by omega, by omega⟩) dL_law_870 ?_
  refine lv_topi (fun a3 ea3 => ?_)
  refine lv_aload_n hx hb dL_law_871 rfl (lv_at hl 3 rfl) ?_
  refine lv_iload_n hx hb dL_law_872 rfl (lv_at hl 0 rfl) ?_
  refine lv_iconst (v := 2) hx hb dL_law_873 (by decide) ?_
  refine lv_iadd hx hb dL_law_874 ?_
  refine lv_topi (fun t4 et4 => ?_)
  have zt4 : t4.toInt = i.toInt + 2 := by rw [et4]; exact add_i rfl (by decide) (by omega) (by omega)
  refine va_sld hx hb hX hbl hbA hS (vp_in_iff.mpr ⟨by omega, by omega⟩) dL_law_875 ?_
  refine lv_topi (fun a5 ea5 => ?_)
  refine caVi (n := 2) (wr := YW cy y0 r v1 f1 w1 g1) (rest := []) hx hb hml hown hts hE hP hD hS hA (sX_X10_front_1 l dC dI cy x0 x a3 a5 v f hIv) k_1052 k_1053 k_1054 k_101 k_1055 (by decide +kernel) ⟨Nat.le_of_ble_eq_true rfl, Nat.le_of_ble_eq_true rfl⟩ [0, 1, 2, 3, 4, 5, 6, 7, 8, 9, 10, 11, 12, 13, 14, 15, 16, 17, 18, 19, 20, 21, 22, 23, 24, 25, 26, 27, 28, 29, 30, 31, 32, 33, 34, 35, 36, 37, 38, 39, 40, 41] [42, 43, 44, 45, 46, 47, 48, 49, 50, 51, 52, 53, 54, 55, 56, 57, 58, 59, 60, 61, 62, 63, 64, 65, 66, 67, 68, 69, 70, 71, 72, 73, 74, 75, 76, 77, 78, 79, 80] (lx1 cy x0 y0 x r v f v1 f1 w1 g1) (lx2 cy x0 y0 x r v f v1 f1 w1 g1) (lx3 cy x0 y0 x r v f v1 f1 w1 g1) lx4 lx5 lx6 0 10 rfl rfl rfl hl.1 rfl (Nat.le_of_ble_eq_true rfl) dL_law_876 ⟨Nat.le_of_ble_eq_true rfl, Nat.le_of_ble_eq_true rfl⟩ (fun r6 u H locs hw hP hD hS => ?_)
  have hP : va_P (dC, dI) vwCl (YW cy y0 r v1 f1 w1 g1 ++ XW cy x0 x v f) H := hP
  have hD : va_D (fun q : Nat => s.heap.size ≤ q) (YW cy y0 r v1 f1 w1 g1 ++ XW cy x0 x v f) := hD
  refine lv_pop hx hb dL_law_879 rfl ?_
  refine lv_aload_n hx hb dL_law_880 rfl (lv_at hl 1 rfl) ?_
  refine lv_aload_n hx hb dL_law_881 rfl (lv_at hl 3 rfl) ?_
  refine lv_iload_n hx hb dL_law_882 rfl (lv_at hl 0 rfl) ?_
  refine lv_iconst (v := 1) hx hb dL_law_883 (by decide) ?_
  refine lv_iadd hx hb dL_law_884 ?_
  refine tI (y := t1) et1.symm ?_
  refine va_sld hx hb hX hbl hbA hS (vp_in_iff.mpr ⟨by omega, by omega⟩) dL_law_885 ?_
  refine tI (y := a3) ea3.symm ?_
  refine lv_aload_n hx hb dL_law_886 rfl (lv_at hl 3 rfl) ?_
  refine lv_iload_n hx hb dL_law_887 rfl (lv_at hl 0 rfl) ?_
  refine lv_iconst (v := 2) hx hb dL_law_888 (by decide) ?_
  refine lv_iadd hx hb dL_law_889 ?_
  refine tI (y := t4) et4.symm ?_
  refine va_sld hx hb hX hbl hbA hS (vp_in_iff.mpr ⟨by omega, by omega⟩) dL_law_890 ?_
  refine tI (y := a5) ea5.symm ?_
  refine caVi (n := 2) (wr := XW cy x0 x v f) (rest := []) hx hb hml hown hts hE hP hD hS hA (sY_X11_front_1 l dC dI cy y0 r a3 a5 v1 f1 w1 g1 hIv1 hCf1 hRf1) k_1908 k_1909 k_1910 k_114 k_1911 (by decide +kernel) ⟨Nat.le_of_ble_eq_true rfl, Nat.le_of_ble_eq_true rfl⟩ [0, 1, 2, 3, 4, 5, 6, 7, 8, 9, 10, 11, 12, 13, 14, 15, 16, 17, 18, 19, 20, 21, 22, 23, 24, 25, 26, 27, 28, 29, 30, 31, 32, 33, 34, 35, 36, 37, 38] [39, 40, 41, 42, 43, 44, 45, 46, 47, 48, 49, 50, 51, 52, 53, 54, 55, 56, 57, 58, 59, 60, 61, 62, 63, 64, 65, 66, 67, 68, 69, 70, 71, 72, 73, 74, 75, 76, 77, 78, 79, 80] (ly1 cy x0 y0 x r v f v1 f1 w1 g1) (ly2 cy x0 y0 x r v f v1 f1 w1 g1) (ly3 cy x0 y0 x r v f v1 f1 w1 g1) ly4 ly5 ly6 0 11 rfl rfl rfl hl.1 rfl (Nat.le_of_ble_eq_true rfl) dL_law_891 ⟨Nat.le_of_ble_eq_true rfl, Nat.le_of_ble_eq_true rfl⟩ (fun r7 u H locs hw hP hD hS => ?_)
  obtain ⟨v8, f9, w10, g11⟩ := u
  obtain ⟨hVy, hFy, hIv8, hCf9, hRf9, hk0y, hk1y, hk2y, hk3y, hk4y, hk5y, hk8y, hk9y, hk10y, hk13y, hk14y, hk15y, hk17y, hk18y, hk24y, hk25y, hk35y, hk36y, hk38y, hk39y⟩ := hw
  have hP : va_P (dC, dI) vwCl (XW cy x0 x v f ++ YW cy y0 r v8 f9 w10 g11) H := hP
  have hD : va_D (fun q : Nat => s.heap.size ≤ q) (XW cy x0 x v f ++ YW cy y0 r v8 f9 w10 g11) := hD
  refine lv_pop hx hb dL_law_894 rfl ?_
  refine lv_goto (tgt := 1413) hx hb dL_law_895 (by decide) ?_
  exact fin v f v8 f9 w10 g11 _ _ _ hIv hIv8 hCf9 hRf9 (R3.keep heq0 (fun _ _ => rfl) (fun _ _ => rfl) (KV.use hVy rfl) (KF.use hFy rfl)) hP hD hS hl
set_option maxHeartbeats 4000000 in
set_option maxRecDepth 100000 in
theorem law_24 {p : Program} {l : Launch} {e : Env} {s : State} {m : MethodId} {below : List Frame} {meth : Method} {c : Code} {dC : Nat → ClassId} {dI : Nat → Nat → Nat} {cy : Nat → ClassId} {b L : Nat} {xs : Nat → Int32} {Q : State → Prop} {x0 y0 : Nat} {x r : Nat → Nat} (hx : p.tables.exec = Jvm.exec) (hb : c.code = code) (hml : c.maxLocals = 4) (hown : s.vm.findClass RL = some m.cls) (hts : ∀ w ∈ BIG, w.before #[Value.ref b] s = true) (hE : ENV (dC, dI) cy s) (hF : SRF (dC, dI) s) (hT : STR (dC, dI) (fun q : Nat => s.heap.size ≤ q) s s.heap) (hX : va_X b L xs s s.heap) (hbl : b < s.heap.size) (hL : L ≤ 3072) {v : Nat → Int32} {f : Nat → Nat → Int32} {v1 : Nat → Int32} {f1 : Nat → Nat → Int32} {w1 : Int64} {g1 : Nat → Int64} {i : Int32} (hi0 : 0 ≤ i.toInt) (hi6 : i.toInt + 6 ≤ L) {H : Heap} {locs : List Loc} {ls : Array Slot} (hIv : XI v) (hIv1 : YI v1) (hCf1 : YC f1) (hRf1 : progOK (f1 4) (f1 5) (v1 9).toInt.toNat) (heq0 : R3 v f v1 f1) (hP : va_P (dC, dI) vwCl (XW cy x0 x v f ++ YW cy y0 r v1 f1 w1 g1) H) (hD : va_D (fun q : Nat => s.heap.size ≤ q) (XW cy x0 x v f ++ YW cy y0 r v1 f1 w1 g1)) (hS : va_S (fun q : Nat => s.heap.size ≤ q) s.heap H locs) (hl : lv_has ls 4 [(3, .int i), (2, .ref y0), (1, .ref x0), (0, .ref b)]) (fin : ∀ (v : Nat → Int32) (f : Nat → Nat → Int32) (v1 : Nat → Int32) (f1 : Nat → Nat → Int32) (w1 : Int64) (g1 : Nat → Int64) (H : Heap) (locs : List Loc) (ls : Array Slot), XI v → YI v1 → YC f1 → progOK (f1 4) (f1 5) (v1 9).toInt.toNat → R3 v f v1 f1 → va_P (dC, dI) vwCl (XW cy x0 x v f ++ YW cy y0 r v1 f1 w1 g1) H → va_D (fun q : Nat => s.heap.size ≤ q) (XW cy x0 x v f ++ YW cy y0 r v1 f1 w1 g1) → va_S (fun q : Nat => s.heap.size ≤ q) s.heap H locs → lv_has ls 4 [(3, .int i), (2, .ref y0), (1, .ref x0), (0, .ref b)] → W p l e room_1 s m #[Value.ref b] below meth c H locs 81 11738 Q (F0 m 1413 ls [])) : W p l e room_1 s m #[Value.ref b] below meth c H locs 81 11738 Q (F0 m 898 ls []) := by
  have hA : ∀ q : Nat, s.heap.size ≤ q → (fun q : Nat => s.heap.size ≤ q) q := fun _ h => h
  have hbA : ¬ (fun q : Nat => s.heap.size ≤ q) b := Nat.not_le.mpr hbl
  refine lv_aload_n hx hb dL_law_898 rfl (lv_at hl 2 rfl) ?_
  refine lv_aload_n hx hb dL_law_899 rfl (lv_at hl 3 rfl) ?_
  refine lv_iload_n hx hb dL_law_900 rfl (lv_at hl 0 rfl) ?_
  refine lv_iconst (v := 1) hx hb dL_law_901 (by decide) ?_
  refine lv_iadd hx hb dL_law_902 ?_
  refine lv_topi (fun t1 et1 => ?_)
  have rg2 := fb_rng i
  have zt1 : t1.toInt = i.toInt + 1 := by rw [et1]; exact add_i rfl (by decide) (by omega) (by omega)
  refine va_sld hx hb hX hbl hbA hS (vp_in_iff.mpr ⟨by omega, by omega⟩) dL_law_903 ?_
  refine lv_topi (fun a3 ea3 => ?_)
  refine caVi (n := 1) (wr := YW cy y0 r v1 f1 w1 g1) (rest := []) hx hb hml hown hts hE hP hD hS hA (sX_X10_wings_1 l dC dI cy x0 x a3 v f hIv) k_1072 k_1073 k_1074 k_101 k_1075 (by decide +kernel) ⟨Nat.le_of_ble_eq_true rfl, Nat.le_of_ble_eq_true rfl⟩ [0, 1, 2, 3, 4, 5, 6, 7, 8, 9, 10, 11, 12, 13, 14, 15, 16, 17, 18, 19, 20, 21, 22, 23, 24, 25, 26, 27, 28, 29, 30, 31, 32, 33, 34, 35, 36, 37, 38, 39, 40, 41] [42, 43, 44, 45, 46, 47, 48, 49, 50, 51, 52, 53, 54, 55, 56, 57, 58, 59, 60, 61, 62, 63, 64, 65, 66, 67, 68, 69, 70, 71, 72, 73, 74, 75, 76, 77, 78, 79, 80] (lx1 cy x0 y0 x r v f v1 f1 w1 g1) (lx2 cy x0 y0 x r v f v1 f1 w1 g1) (lx3 cy x0 y0 x r v f v1 f1 w1 g1) lx4 lx5 lx6 0 10 rfl rfl rfl hl.1 rfl (Nat.le_of_ble_eq_true rfl) dL_law_904 ⟨Nat.le_of_ble_eq_true rfl, Nat.le_of_ble_eq_true rfl⟩ (fun r4 u H locs hw hP hD hS => ?_)
  have hP : va_P (dC, dI) vwCl (YW cy y0 r v1 f1 w1 g1 ++ XW cy x0 x v f) H := hP
  have hD : va_D (fun q : Nat => s.heap.size ≤ q) (YW cy y0 r v1 f1 w1 g1 ++ XW cy x0 x v f) := hD
  refine lv_pop hx hb dL_law_907 rfl ?_
  refine lv_aload_n hx hb dL_law_908 rfl (lv_at hl 1 rfl) ?_
  refine lv_aload_n hx hb dL_law_909 rfl (lv_at hl 3 rfl) ?_
  refine lv_iload_n hx hb dL_law_910 rfl (lv_at hl 0 rfl) ?_
  refine lv_iconst (v := 1) hx hb dL_law_911 (by decide) ?_
  refine lv_iadd hx hb dL_law_912 ?_
  refine tI (y := t1) et1.symm ?_
  refine va_sld hx hb hX hbl hbA hS (vp_in_iff.mpr ⟨by omega, by omega⟩) dL_law_913 ?_
  refine tI (y := a3) ea3.symm ?_
  refine caVi (n := 1) (wr := XW cy x0 x v f) (rest := []) hx hb hml hown hts hE hP hD hS hA (sY_X11_wings_1 l dC dI cy y0 r a3 v1 f1 w1 g1 hIv1 hCf1 hRf1) k_1916 k_1917 k_1918 k_114 k_1919 (by decide +kernel) ⟨Nat.le_of_ble_eq_true rfl, Nat.le_of_ble_eq_true rfl⟩ [0, 1, 2, 3, 4, 5, 6, 7, 8, 9, 10, 11, 12, 13, 14, 15, 16, 17, 18, 19, 20, 21, 22, 23, 24, 25, 26, 27, 28, 29, 30, 31, 32, 33, 34, 35, 36, 37, 38] [39, 40, 41, 42, 43, 44, 45, 46, 47, 48, 49, 50, 51, 52, 53, 54, 55, 56, 57, 58, 59, 60, 61, 62, 63, 64, 65, 66, 67, 68, 69, 70, 71, 72, 73, 74, 75, 76, 77, 78, 79, 80] (ly1 cy x0 y0 x r v f v1 f1 w1 g1) (ly2 cy x0 y0 x r v f v1 f1 w1 g1) (ly3 cy x0 y0 x r v f v1 f1 w1 g1) ly4 ly5 ly6 0 11 rfl rfl rfl hl.1 rfl (Nat.le_of_ble_eq_true rfl) dL_law_914 ⟨Nat.le_of_ble_eq_true rfl, Nat.le_of_ble_eq_true rfl⟩ (fun r5 u H locs hw hP hD hS => ?_)
  obtain ⟨v6, f7, w8, g9⟩ := u
  obtain ⟨hVy, hFy, hIv6, hCf7, hRf7, hk0y, hk1y, hk2y, hk3y, hk4y, hk5y, hk8y, hk9y, hk10y, hk13y, hk14y, hk15y, hk17y, hk18y, hk24y, hk25y, hk35y, hk36y, hk38y, hk39y⟩ := hw
  have hP : va_P (dC, dI) vwCl (XW cy x0 x v f ++ YW cy y0 r v6 f7 w8 g9) H := hP
  have hD : va_D (fun q : Nat => s.heap.size ≤ q) (XW cy x0 x v f ++ YW cy y0 r v6 f7 w8 g9) := hD
  refine lv_pop hx hb dL_law_917 rfl ?_
  refine lv_goto (tgt := 1413) hx hb dL_law_918 (by decide) ?_
  exact fin v f v6 f7 w8 g9 _ _ _ hIv hIv6 hCf7 hRf7 (R3.keep heq0 (fun _ _ => rfl) (fun _ _ => rfl) (KV.use hVy rfl) (KF.use hFy rfl)) hP hD hS hl
set_option maxHeartbeats 4000000 in
set_option maxRecDepth 100000 in
theorem law_25 {p : Program} {l : Launch} {e : Env} {s : State} {m : MethodId} {below : List Frame} {meth : Method} {c : Code} {dC : Nat → ClassId} {dI : Nat → Nat → Nat} {cy : Nat → ClassId} {b L : Nat} {xs : Nat → Int32} {Q : State → Prop} {x0 y0 : Nat} {x r : Nat → Nat} (hx : p.tables.exec = Jvm.exec) (hb : c.code = code) (hml : c.maxLocals = 4) (hown : s.vm.findClass RL = some m.cls) (hts : ∀ w ∈ BIG, w.before #[Value.ref b] s = true) (hE : ENV (dC, dI) cy s) (hF : SRF (dC, dI) s) (hT : STR (dC, dI) (fun q : Nat => s.heap.size ≤ q) s s.heap) (hX : va_X b L xs s s.heap) (hbl : b < s.heap.size) (hL : L ≤ 3072) {v : Nat → Int32} {f : Nat → Nat → Int32} {v1 : Nat → Int32} {f1 : Nat → Nat → Int32} {w1 : Int64} {g1 : Nat → Int64} {i : Int32} (hi0 : 0 ≤ i.toInt) (hi6 : i.toInt + 6 ≤ L) {H : Heap} {locs : List Loc} {ls : Array Slot} (hIv : XI v) (hIv1 : YI v1) (hCf1 : YC f1) (hRf1 : progOK (f1 4) (f1 5) (v1 9).toInt.toNat) (heq0 : R3 v f v1 f1) (hP : va_P (dC, dI) vwCl (XW cy x0 x v f ++ YW cy y0 r v1 f1 w1 g1) H) (hD : va_D (fun q : Nat => s.heap.size ≤ q) (XW cy x0 x v f ++ YW cy y0 r v1 f1 w1 g1)) (hS : va_S (fun q : Nat => s.heap.size ≤ q) s.heap H locs) (hl : lv_has ls 4 [(3, .int i), (2, .ref y0), (1, .ref x0), (0, .ref b)]) (fin : ∀ (v : Nat → Int32) (f : Nat → Nat → Int32) (v1 : Nat → Int32) (f1 : Nat → Nat → Int32) (w1 : Int64) (g1 : Nat → Int64) (H : Heap) (locs : List Loc) (ls : Array Slot), XI v → YI v1 → YC f1 → progOK (f1 4) (f1 5) (v1 9).toInt.toNat → R3 v f v1 f1 → va_P (dC, dI) vwCl (XW cy x0 x v f ++ YW cy y0 r v1 f1 w1 g1) H → va_D (fun q : Nat => s.heap.size ≤ q) (XW cy x0 x v f ++ YW cy y0 r v1 f1 w1 g1) → va_S (fun q : Nat => s.heap.size ≤ q) s.heap H locs → lv_has ls 4 [(3, .int i), (2, .ref y0), (1, .ref x0), (0, .ref b)] → W p l e room_1 s m #[Value.ref b] below meth c H locs 81 11738 Q (F0 m 1413 ls [])) : W p l e room_1 s m #[Value.ref b] below meth c H locs 81 11738 Q (F0 m 921 ls []) := by
  have hA : ∀ q : Nat, s.heap.size ≤ q → (fun q : Nat => s.heap.size ≤ q) q := fun _ h => h
  have hbA : ¬ (fun q : Nat => s.heap.size ≤ q) b := Nat.not_le.mpr hbl
  refine lv_aload_n hx hb dL_law_921 rfl (lv_at hl 2 rfl) ?_
  refine caVi (n := 0) (wr := YW cy y0 r v1 f1 w1 g1) (rest := []) hx hb hml hown hts hE hP hD hS hA (sX_X10_cloth_1 l dC dI cy x0 x  v f hIv) k_1093 k_1094 k_1095 k_101 k_1096 (by decide +kernel) ⟨Nat.le_of_ble_eq_true rfl, Nat.le_of_ble_eq_true rfl⟩ [0, 1, 2, 3, 4, 5, 6, 7, 8, 9, 10, 11, 12, 13, 14, 15, 16, 17, 18, 19, 20, 21, 22, 23, 24, 25, 26, 27, 28, 29, 30, 31, 32, 33, 34, 35, 36, 37, 38, 39, 40, 41] [42, 43, 44, 45, 46, 47, 48, 49, 50, 51, 52, 53, 54, 55, 56, 57, 58, 59, 60, 61, 62, 63, 64, 65, 66, 67, 68, 69, 70, 71, 72, 73, 74, 75, 76, 77, 78, 79, 80] (lx1 cy x0 y0 x r v f v1 f1 w1 g1) (lx2 cy x0 y0 x r v f v1 f1 w1 g1) (lx3 cy x0 y0 x r v f v1 f1 w1 g1) lx4 lx5 lx6 0 10 rfl rfl rfl hl.1 rfl (Nat.le_of_ble_eq_true rfl) dL_law_922 ⟨Nat.le_of_ble_eq_true rfl, Nat.le_of_ble_eq_true rfl⟩ (fun r1 u H locs hw hP hD hS => ?_)
  obtain ⟨v2, f3⟩ := u
  obtain ⟨hVx, hFx, hIv2, hk0x, hk1x, hk7x, hk8x, hk9x, hk10x, hk31x, hk32x⟩ := hw
  have hP : va_P (dC, dI) vwCl (YW cy y0 r v1 f1 w1 g1 ++ XW cy x0 x v2 f3) H := hP
  have hD : va_D (fun q : Nat => s.heap.size ≤ q) (YW cy y0 r v1 f1 w1 g1 ++ XW cy x0 x v2 f3) := hD
  refine lv_pop hx hb dL_law_925 rfl ?_
  refine lv_aload_n hx hb dL_law_926 rfl (lv_at hl 1 rfl) ?_
  refine caVi (n := 0) (wr := XW cy x0 x v2 f3) (rest := []) hx hb hml hown hts hE hP hD hS hA (sY_X11_cloth_1 l dC dI cy y0 r  v1 f1 w1 g1 hIv1 hCf1 hRf1) k_1923 k_1924 k_1925 k_114 k_1926 (by decide +kernel) ⟨Nat.le_of_ble_eq_true rfl, Nat.le_of_ble_eq_true rfl⟩ [0, 1, 2, 3, 4, 5, 6, 7, 8, 9, 10, 11, 12, 13, 14, 15, 16, 17, 18, 19, 20, 21, 22, 23, 24, 25, 26, 27, 28, 29, 30, 31, 32, 33, 34, 35, 36, 37, 38] [39, 40, 41, 42, 43, 44, 45, 46, 47, 48, 49, 50, 51, 52, 53, 54, 55, 56, 57, 58, 59, 60, 61, 62, 63, 64, 65, 66, 67, 68, 69, 70, 71, 72, 73, 74, 75, 76, 77, 78, 79, 80] (ly1 cy x0 y0 x r v2 f3 v1 f1 w1 g1) (ly2 cy x0 y0 x r v2 f3 v1 f1 w1 g1) (ly3 cy x0 y0 x r v2 f3 v1 f1 w1 g1) ly4 ly5 ly6 0 11 rfl rfl rfl hl.1 rfl (Nat.le_of_ble_eq_true rfl) dL_law_927 ⟨Nat.le_of_ble_eq_true rfl, Nat.le_of_ble_eq_true rfl⟩ (fun r4 u H locs hw hP hD hS => ?_)
  obtain ⟨v5, f6, w7, g8⟩ := u
  obtain ⟨hVy, hFy, hIv5, hCf6, hRf6, hk0y, hk1y, hk2y, hk3y, hk4y, hk5y, hk8y, hk9y, hk10y, hk13y, hk14y, hk15y, hk17y, hk18y, hk24y, hk25y, hk35y, hk36y, hk38y, hk39y⟩ := hw
  have hP : va_P (dC, dI) vwCl (XW cy x0 x v2 f3 ++ YW cy y0 r v5 f6 w7 g8) H := hP
  have hD : va_D (fun q : Nat => s.heap.size ≤ q) (XW cy x0 x v2 f3 ++ YW cy y0 r v5 f6 w7 g8) := hD
  refine lv_pop hx hb dL_law_930 rfl ?_
  refine lv_goto (tgt := 1413) hx hb dL_law_931 (by decide) ?_
  exact fin v2 f3 v5 f6 w7 g8 _ _ _ hIv2 hIv5 hCf6 hRf6 (R3.keep heq0 (KV.use hVx rfl) (KF.use hFx rfl) (KV.use hVy rfl) (KF.use hFy rfl)) hP hD hS hl
set_option maxHeartbeats 4000000 in
set_option maxRecDepth 100000 in
theorem law_26 {p : Program} {l : Launch} {e : Env} {s : State} {m : MethodId} {below : List Frame} {meth : Method} {c : Code} {dC : Nat → ClassId} {dI : Nat → Nat → Nat} {cy : Nat → ClassId} {b L : Nat} {xs : Nat → Int32} {Q : State → Prop} {x0 y0 : Nat} {x r : Nat → Nat} (hx : p.tables.exec = Jvm.exec) (hb : c.code = code) (hml : c.maxLocals = 4) (hown : s.vm.findClass RL = some m.cls) (hts : ∀ w ∈ BIG, w.before #[Value.ref b] s = true) (hE : ENV (dC, dI) cy s) (hF : SRF (dC, dI) s) (hT : STR (dC, dI) (fun q : Nat => s.heap.size ≤ q) s s.heap) (hX : va_X b L xs s s.heap) (hbl : b < s.heap.size) (hL : L ≤ 3072) {v : Nat → Int32} {f : Nat → Nat → Int32} {v1 : Nat → Int32} {f1 : Nat → Nat → Int32} {w1 : Int64} {g1 : Nat → Int64} {i : Int32} (hi0 : 0 ≤ i.toInt) (hi6 : i.toInt + 6 ≤ L) {H : Heap} {locs : List Loc} {ls : Array Slot} (hIv : XI v) (hIv1 : YI v1) (hCf1 : YC f1) (hRf1 : progOK (f1 4) (f1 5) (v1 9).toInt.toNat) (heq0 : R3 v f v1 f1) (hP : va_P (dC, dI) vwCl (XW cy x0 x v f ++ YW cy y0 r v1 f1 w1 g1) H) (hD : va_D (fun q : Nat => s.heap.size ≤ q) (XW cy x0 x v f ++ YW cy y0 r v1 f1 w1 g1)) (hS : va_S (fun q : Nat => s.heap.size ≤ q) s.heap H locs) (hl : lv_has ls 4 [(3, .int i), (2, .ref y0), (1, .ref x0), (0, .ref b)]) (fin : ∀ (v : Nat → Int32) (f : Nat → Nat → Int32) (v1 : Nat → Int32) (f1 : Nat → Nat → Int32) (w1 : Int64) (g1 : Nat → Int64) (H : Heap) (locs : List Loc) (ls : Array Slot), XI v → YI v1 → YC f1 → progOK (f1 4) (f1 5) (v1 9).toInt.toNat → R3 v f v1 f1 → va_P (dC, dI) vwCl (XW cy x0 x v f ++ YW cy y0 r v1 f1 w1 g1) H → va_D (fun q : Nat => s.heap.size ≤ q) (XW cy x0 x v f ++ YW cy y0 r v1 f1 w1 g1) → va_S (fun q : Nat => s.heap.size ≤ q) s.heap H locs → lv_has ls 4 [(3, .int i), (2, .ref y0), (1, .ref x0), (0, .ref b)] → W p l e room_1 s m #[Value.ref b] below meth c H locs 81 11738 Q (F0 m 1413 ls [])) : W p l e room_1 s m #[Value.ref b] below meth c H locs 81 11738 Q (F0 m 934 ls []) := by
  have hA : ∀ q : Nat, s.heap.size ≤ q → (fun q : Nat => s.heap.size ≤ q) q := fun _ h => h
  have hbA : ¬ (fun q : Nat => s.heap.size ≤ q) b := Nat.not_le.mpr hbl
  refine lv_aload_n hx hb dL_law_934 rfl (lv_at hl 2 rfl) ?_
  refine caVi (n := 0) (wr := YW cy y0 r v1 f1 w1 g1) (rest := []) hx hb hml hown hts hE hP hD hS hA (sX_X10_buttons_1 l dC dI cy x0 x  v f hIv) k_1111 k_1112 k_1113 k_101 k_1114 (by decide +kernel) ⟨Nat.le_of_ble_eq_true rfl, Nat.le_of_ble_eq_true rfl⟩ [0, 1, 2, 3, 4, 5, 6, 7, 8, 9, 10, 11, 12, 13, 14, 15, 16, 17, 18, 19, 20, 21, 22, 23, 24, 25, 26, 27, 28, 29, 30, 31, 32, 33, 34, 35, 36, 37, 38, 39, 40, 41] [42, 43, 44, 45, 46, 47, 48, 49, 50, 51, 52, 53, 54, 55, 56, 57, 58, 59, 60, 61, 62, 63, 64, 65, 66, 67, 68, 69, 70, 71, 72, 73, 74, 75, 76, 77, 78, 79, 80] (lx1 cy x0 y0 x r v f v1 f1 w1 g1) (lx2 cy x0 y0 x r v f v1 f1 w1 g1) (lx3 cy x0 y0 x r v f v1 f1 w1 g1) lx4 lx5 lx6 0 10 rfl rfl rfl hl.1 rfl (Nat.le_of_ble_eq_true rfl) dL_law_935 ⟨Nat.le_of_ble_eq_true rfl, Nat.le_of_ble_eq_true rfl⟩ (fun r1 u H locs hw hP hD hS => ?_)
  obtain ⟨v2, f3⟩ := u
  obtain ⟨hVx, hFx, hIv2, hk0x, hk1x, hk7x, hk8x, hk9x, hk10x, hk31x, hk32x⟩ := hw
  have hP : va_P (dC, dI) vwCl (YW cy y0 r v1 f1 w1 g1 ++ XW cy x0 x v2 f3) H := hP
  have hD : va_D (fun q : Nat => s.heap.size ≤ q) (YW cy y0 r v1 f1 w1 g1 ++ XW cy x0 x v2 f3) := hD
  refine lv_pop hx hb dL_law_938 rfl ?_
  refine lv_aload_n hx hb dL_law_939 rfl (lv_at hl 1 rfl) ?_
  refine caVi (n := 0) (wr := XW cy x0 x v2 f3) (rest := []) hx hb hml hown hts hE hP hD hS hA (sY_X11_buttons_1 l dC dI cy y0 r  v1 f1 w1 g1 hIv1 hCf1 hRf1) k_1932 k_1933 k_1934 k_114 k_1935 (by decide +kernel) ⟨Nat.le_of_ble_eq_true rfl, Nat.le_of_ble_eq_true rfl⟩ [0, 1, 2, 3, 4, 5, 6, 7, 8, 9, 10, 11, 12, 13, 14, 15, 16, 17, 18, 19, 20, 21, 22, 23, 24, 25, 26, 27, 28, 29, 30, 31, 32, 33, 34, 35, 36, 37, 38] [39, 40, 41, 42, 43, 44, 45, 46, 47, 48, 49, 50, 51, 52, 53, 54, 55, 56, 57, 58, 59, 60, 61, 62, 63, 64, 65, 66, 67, 68, 69, 70, 71, 72, 73, 74, 75, 76, 77, 78, 79, 80] (ly1 cy x0 y0 x r v2 f3 v1 f1 w1 g1) (ly2 cy x0 y0 x r v2 f3 v1 f1 w1 g1) (ly3 cy x0 y0 x r v2 f3 v1 f1 w1 g1) ly4 ly5 ly6 0 11 rfl rfl rfl hl.1 rfl (Nat.le_of_ble_eq_true rfl) dL_law_940 ⟨Nat.le_of_ble_eq_true rfl, Nat.le_of_ble_eq_true rfl⟩ (fun r4 u H locs hw hP hD hS => ?_)
  obtain ⟨v5, f6, w7, g8⟩ := u
  obtain ⟨hVy, hFy, hIv5, hCf6, hRf6, hk0y, hk1y, hk2y, hk3y, hk4y, hk5y, hk8y, hk9y, hk10y, hk13y, hk14y, hk15y, hk17y, hk18y, hk24y, hk25y, hk35y, hk36y, hk38y, hk39y⟩ := hw
  have hP : va_P (dC, dI) vwCl (XW cy x0 x v2 f3 ++ YW cy y0 r v5 f6 w7 g8) H := hP
  have hD : va_D (fun q : Nat => s.heap.size ≤ q) (XW cy x0 x v2 f3 ++ YW cy y0 r v5 f6 w7 g8) := hD
  refine lv_pop hx hb dL_law_943 rfl ?_
  refine lv_goto (tgt := 1413) hx hb dL_law_944 (by decide) ?_
  exact fin v2 f3 v5 f6 w7 g8 _ _ _ hIv2 hIv5 hCf6 hRf6 (R3.keep heq0 (KV.use hVx rfl) (KF.use hFx rfl) (KV.use hVy rfl) (KF.use hFy rfl)) hP hD hS hl
set_option maxHeartbeats 4000000 in
set_option maxRecDepth 100000 in
theorem law_27 {p : Program} {l : Launch} {e : Env} {s : State} {m : MethodId} {below : List Frame} {meth : Method} {c : Code} {dC : Nat → ClassId} {dI : Nat → Nat → Nat} {cy : Nat → ClassId} {b L : Nat} {xs : Nat → Int32} {Q : State → Prop} {x0 y0 : Nat} {x r : Nat → Nat} (hx : p.tables.exec = Jvm.exec) (hb : c.code = code) (hml : c.maxLocals = 4) (hown : s.vm.findClass RL = some m.cls) (hts : ∀ w ∈ BIG, w.before #[Value.ref b] s = true) (hE : ENV (dC, dI) cy s) (hF : SRF (dC, dI) s) (hT : STR (dC, dI) (fun q : Nat => s.heap.size ≤ q) s s.heap) (hX : va_X b L xs s s.heap) (hbl : b < s.heap.size) (hL : L ≤ 3072) {v : Nat → Int32} {f : Nat → Nat → Int32} {v1 : Nat → Int32} {f1 : Nat → Nat → Int32} {w1 : Int64} {g1 : Nat → Int64} {i : Int32} (hi0 : 0 ≤ i.toInt) (hi6 : i.toInt + 6 ≤ L) {H : Heap} {locs : List Loc} {ls : Array Slot} (hIv : XI v) (hIv1 : YI v1) (hCf1 : YC f1) (hRf1 : progOK (f1 4) (f1 5) (v1 9).toInt.toNat) (heq0 : R3 v f v1 f1) (hP : va_P (dC, dI) vwCl (XW cy x0 x v f ++ YW cy y0 r v1 f1 w1 g1) H) (hD : va_D (fun q : Nat => s.heap.size ≤ q) (XW cy x0 x v f ++ YW cy y0 r v1 f1 w1 g1)) (hS : va_S (fun q : Nat => s.heap.size ≤ q) s.heap H locs) (hl : lv_has ls 4 [(3, .int i), (2, .ref y0), (1, .ref x0), (0, .ref b)]) (fin : ∀ (v : Nat → Int32) (f : Nat → Nat → Int32) (v1 : Nat → Int32) (f1 : Nat → Nat → Int32) (w1 : Int64) (g1 : Nat → Int64) (H : Heap) (locs : List Loc) (ls : Array Slot), XI v → YI v1 → YC f1 → progOK (f1 4) (f1 5) (v1 9).toInt.toNat → R3 v f v1 f1 → va_P (dC, dI) vwCl (XW cy x0 x v f ++ YW cy y0 r v1 f1 w1 g1) H → va_D (fun q : Nat => s.heap.size ≤ q) (XW cy x0 x v f ++ YW cy y0 r v1 f1 w1 g1) → va_S (fun q : Nat => s.heap.size ≤ q) s.heap H locs → lv_has ls 4 [(3, .int i), (2, .ref y0), (1, .ref x0), (0, .ref b)] → W p l e room_1 s m #[Value.ref b] below meth c H locs 81 11738 Q (F0 m 1413 ls [])) : W p l e room_1 s m #[Value.ref b] below meth c H locs 81 11738 Q (F0 m 947 ls []) := by
  have hA : ∀ q : Nat, s.heap.size ≤ q → (fun q : Nat => s.heap.size ≤ q) q := fun _ h => h
  have hbA : ¬ (fun q : Nat => s.heap.size ≤ q) b := Nat.not_le.mpr hbl
  refine lv_aload_n hx hb dL_law_947 rfl (lv_at hl 2 rfl) ?_
  refine lv_aload_n hx hb dL_law_948 rfl (lv_at hl 3 rfl) ?_
  refine lv_iload_n hx hb dL_law_949 rfl (lv_at hl 0 rfl) ?_
  refine lv_iconst (v := 1) hx hb dL_law_950 (by decide) ?_
  refine lv_iadd hx hb dL_law_951 ?_
  refine lv_topi (fun t1 et1 => ?_)
  have rg2 := fb_rng i
  have zt1 : t1.toInt = i.toInt + 1 := by rw [et1]; exact add_i rfl (by decide) (by omega) (by omega)
  refine va_sld hx hb hX hbl hbA hS (vp_in_iff.mpr ⟨by omega, by omega⟩) dL_law_952 ?_
  refine lv_topi (fun a3 ea3 => ?_)
  refine lv_aload_n hx hb dL_law_953 rfl (lv_at hl 3 rfl) ?_
  refine lv_iload_n hx hb dL_law_954 rfl (lv_at hl 0 rfl) ?_
  refine lv_iconst (v := 2) hx hb dL_law_955 (by decide) ?_
  refine lv_iadd hx hb dL_law_956 ?_
  refine lv_topi (fun t4 et4 => ?_)
  have zt4 : t4.toInt = i.toInt + 2 := by rw [et4]; exact add_i rfl (by decide) (by omega) (by omega)
  refine va_sld hx hb hX hbl hbA hS (vp_in_iff.mpr ⟨by omega, by omega⟩) dL_law_957 ?_
  refine lv_topi (fun a5 ea5 => ?_)
  refine caVi (n := 2) (wr := YW cy y0 r v1 f1 w1 g1) (rest := []) hx hb hml hown hts hE hP hD hS hA (sX_X10_reach_1 l dC dI cy x0 x a3 a5 v f hIv) k_1129 k_1130 k_1131 k_101 k_1132 (by decide +kernel) ⟨Nat.le_of_ble_eq_true rfl, Nat.le_of_ble_eq_true rfl⟩ [0, 1, 2, 3, 4, 5, 6, 7, 8, 9, 10, 11, 12, 13, 14, 15, 16, 17, 18, 19, 20, 21, 22, 23, 24, 25, 26, 27, 28, 29, 30, 31, 32, 33, 34, 35, 36, 37, 38, 39, 40, 41] [42, 43, 44, 45, 46, 47, 48, 49, 50, 51, 52, 53, 54, 55, 56, 57, 58, 59, 60, 61, 62, 63, 64, 65, 66, 67, 68, 69, 70, 71, 72, 73, 74, 75, 76, 77, 78, 79, 80] (lx1 cy x0 y0 x r v f v1 f1 w1 g1) (lx2 cy x0 y0 x r v f v1 f1 w1 g1) (lx3 cy x0 y0 x r v f v1 f1 w1 g1) lx4 lx5 lx6 0 10 rfl rfl rfl hl.1 rfl (Nat.le_of_ble_eq_true rfl) dL_law_958 ⟨Nat.le_of_ble_eq_true rfl, Nat.le_of_ble_eq_true rfl⟩ (fun r6 u H locs hw hP hD hS => ?_)
  obtain ⟨v7, f8⟩ := u
  obtain ⟨hVx, hFx, hIv7, hk0x, hk1x, hk7x, hk8x, hk9x, hk10x, hk31x, hk32x⟩ := hw
  have hP : va_P (dC, dI) vwCl (YW cy y0 r v1 f1 w1 g1 ++ XW cy x0 x v7 f8) H := hP
  have hD : va_D (fun q : Nat => s.heap.size ≤ q) (YW cy y0 r v1 f1 w1 g1 ++ XW cy x0 x v7 f8) := hD
  refine lv_pop hx hb dL_law_961 rfl ?_
  refine lv_aload_n hx hb dL_law_962 rfl (lv_at hl 1 rfl) ?_
  refine lv_aload_n hx hb dL_law_963 rfl (lv_at hl 3 rfl) ?_
  refine lv_iload_n hx hb dL_law_964 rfl (lv_at hl 0 rfl) ?_
  refine lv_iconst (v := 1) hx hb dL_law_965 (by decide) ?_
  refine lv_iadd hx hb dL_law_966 ?_
  refine tI (y := t1) et1.symm ?_
  refine va_sld hx hb hX hbl hbA hS (vp_in_iff.mpr ⟨by omega, by omega⟩) dL_law_967 ?_
  refine tI (y := a3) ea3.symm ?_
  refine lv_aload_n hx hb dL_law_968 rfl (lv_at hl 3 rfl) ?_
  refine lv_iload_n hx hb dL_law_969 rfl (lv_at hl 0 rfl) ?_
  refine lv_iconst (v := 2) hx hb dL_law_970 (by decide) ?_
  refine lv_iadd hx hb dL_law_971 ?_
  refine tI (y := t4) et4.symm ?_
  refine va_sld hx hb hX hbl hbA hS (vp_in_iff.mpr ⟨by omega, by omega⟩) dL_law_972 ?_
  refine tI (y := a5) ea5.symm ?_
  refine caVi (n := 2) (wr := XW cy x0 x v7 f8) (rest := []) hx hb hml hown hts hE hP hD hS hA (sY_X11_reach_1 l dC dI cy y0 r a3 a5 v1 f1 w1 g1 hIv1 hCf1 hRf1) k_1944 k_1945 k_1946 k_114 k_1947 (by decide +kernel) ⟨Nat.le_of_ble_eq_true rfl, Nat.le_of_ble_eq_true rfl⟩ [0, 1, 2, 3, 4, 5, 6, 7, 8, 9, 10, 11, 12, 13, 14, 15, 16, 17, 18, 19, 20, 21, 22, 23, 24, 25, 26, 27, 28, 29, 30, 31, 32, 33, 34, 35, 36, 37, 38] [39, 40, 41, 42, 43, 44, 45, 46, 47, 48, 49, 50, 51, 52, 53, 54, 55, 56, 57, 58, 59, 60, 61, 62, 63, 64, 65, 66, 67, 68, 69, 70, 71, 72, 73, 74, 75, 76, 77, 78, 79, 80] (ly1 cy x0 y0 x r v7 f8 v1 f1 w1 g1) (ly2 cy x0 y0 x r v7 f8 v1 f1 w1 g1) (ly3 cy x0 y0 x r v7 f8 v1 f1 w1 g1) ly4 ly5 ly6 0 11 rfl rfl rfl hl.1 rfl (Nat.le_of_ble_eq_true rfl) dL_law_973 ⟨Nat.le_of_ble_eq_true rfl, Nat.le_of_ble_eq_true rfl⟩ (fun r9 u H locs hw hP hD hS => ?_)
  obtain ⟨v10, f11, w12, g13⟩ := u
  obtain ⟨hVy, hFy, hIv10, hCf11, hRf11, hk0y, hk1y, hk2y, hk3y, hk4y, hk5y, hk8y, hk9y, hk10y, hk13y, hk14y, hk15y, hk17y, hk18y, hk24y, hk25y, hk35y, hk36y, hk38y, hk39y⟩ := hw
  have hP : va_P (dC, dI) vwCl (XW cy x0 x v7 f8 ++ YW cy y0 r v10 f11 w12 g13) H := hP
  have hD : va_D (fun q : Nat => s.heap.size ≤ q) (XW cy x0 x v7 f8 ++ YW cy y0 r v10 f11 w12 g13) := hD
  refine lv_pop hx hb dL_law_976 rfl ?_
  refine lv_goto (tgt := 1413) hx hb dL_law_977 (by decide) ?_
  exact fin v7 f8 v10 f11 w12 g13 _ _ _ hIv7 hIv10 hCf11 hRf11 (R3.keep heq0 (KV.use hVx rfl) (KF.use hFx rfl) (KV.use hVy rfl) (KF.use hFy rfl)) hP hD hS hl
set_option maxHeartbeats 4000000 in
set_option maxRecDepth 100000 in
theorem law_28 {p : Program} {l : Launch} {e : Env} {s : State} {m : MethodId} {below : List Frame} {meth : Method} {c : Code} {dC : Nat → ClassId} {dI : Nat → Nat → Nat} {cy : Nat → ClassId} {b L : Nat} {xs : Nat → Int32} {Q : State → Prop} {x0 y0 : Nat} {x r : Nat → Nat} (hx : p.tables.exec = Jvm.exec) (hb : c.code = code) (hml : c.maxLocals = 4) (hown : s.vm.findClass RL = some m.cls) (hts : ∀ w ∈ BIG, w.before #[Value.ref b] s = true) (hE : ENV (dC, dI) cy s) (hF : SRF (dC, dI) s) (hT : STR (dC, dI) (fun q : Nat => s.heap.size ≤ q) s s.heap) (hX : va_X b L xs s s.heap) (hbl : b < s.heap.size) (hL : L ≤ 3072) {v : Nat → Int32} {f : Nat → Nat → Int32} {v1 : Nat → Int32} {f1 : Nat → Nat → Int32} {w1 : Int64} {g1 : Nat → Int64} {i : Int32} (hi0 : 0 ≤ i.toInt) (hi6 : i.toInt + 6 ≤ L) {H : Heap} {locs : List Loc} {ls : Array Slot} (hIv : XI v) (hIv1 : YI v1) (hCf1 : YC f1) (hRf1 : progOK (f1 4) (f1 5) (v1 9).toInt.toNat) (heq0 : R3 v f v1 f1) (hP : va_P (dC, dI) vwCl (XW cy x0 x v f ++ YW cy y0 r v1 f1 w1 g1) H) (hD : va_D (fun q : Nat => s.heap.size ≤ q) (XW cy x0 x v f ++ YW cy y0 r v1 f1 w1 g1)) (hS : va_S (fun q : Nat => s.heap.size ≤ q) s.heap H locs) (hl : lv_has ls 4 [(3, .int i), (2, .ref y0), (1, .ref x0), (0, .ref b)]) (fin : ∀ (v : Nat → Int32) (f : Nat → Nat → Int32) (v1 : Nat → Int32) (f1 : Nat → Nat → Int32) (w1 : Int64) (g1 : Nat → Int64) (H : Heap) (locs : List Loc) (ls : Array Slot), XI v → YI v1 → YC f1 → progOK (f1 4) (f1 5) (v1 9).toInt.toNat → R3 v f v1 f1 → va_P (dC, dI) vwCl (XW cy x0 x v f ++ YW cy y0 r v1 f1 w1 g1) H → va_D (fun q : Nat => s.heap.size ≤ q) (XW cy x0 x v f ++ YW cy y0 r v1 f1 w1 g1) → va_S (fun q : Nat => s.heap.size ≤ q) s.heap H locs → lv_has ls 4 [(3, .int i), (2, .ref y0), (1, .ref x0), (0, .ref b)] → W p l e room_1 s m #[Value.ref b] below meth c H locs 81 11738 Q (F0 m 1413 ls [])) : W p l e room_1 s m #[Value.ref b] below meth c H locs 81 11738 Q (F0 m 980 ls []) := by
  have hA : ∀ q : Nat, s.heap.size ≤ q → (fun q : Nat => s.heap.size ≤ q) q := fun _ h => h
  have hbA : ¬ (fun q : Nat => s.heap.size ≤ q) b := Nat.not_le.mpr hbl
  refine lv_aload_n hx hb dL_law_980 rfl (lv_at hl 2 rfl) ?_
  refine caVi (n := 0) (wr := YW cy y0 r v1 f1 w1 g1) (rest := []) hx hb hml hown hts hE hP hD hS hA (sX_X10_turning_1 l dC dI cy x0 x  v f hIv) k_1150 k_1151 k_1152 k_101 k_1153 (by decide +kernel) ⟨Nat.le_of_ble_eq_true rfl, Nat.le_of_ble_eq_true rfl⟩ [0, 1, 2, 3, 4, 5, 6, 7, 8, 9, 10, 11, 12, 13, 14, 15, 16, 17, 18, 19, 20, 21, 22, 23, 24, 25, 26, 27, 28, 29, 30, 31, 32, 33, 34, 35, 36, 37, 38, 39, 40, 41] [42, 43, 44, 45, 46, 47, 48, 49, 50, 51, 52, 53, 54, 55, 56, 57, 58, 59, 60, 61, 62, 63, 64, 65, 66, 67, 68, 69, 70, 71, 72, 73, 74, 75, 76, 77, 78, 79, 80] (lx1 cy x0 y0 x r v f v1 f1 w1 g1) (lx2 cy x0 y0 x r v f v1 f1 w1 g1) (lx3 cy x0 y0 x r v f v1 f1 w1 g1) lx4 lx5 lx6 0 10 rfl rfl rfl hl.1 rfl (Nat.le_of_ble_eq_true rfl) dL_law_981 ⟨Nat.le_of_ble_eq_true rfl, Nat.le_of_ble_eq_true rfl⟩ (fun r1 u H locs hw hP hD hS => ?_)
  obtain ⟨v2, f3⟩ := u
  obtain ⟨hVx, hFx, hIv2, hk0x, hk1x, hk7x, hk8x, hk9x, hk10x, hk31x, hk32x⟩ := hw
  have hP : va_P (dC, dI) vwCl (YW cy y0 r v1 f1 w1 g1 ++ XW cy x0 x v2 f3) H := hP
  have hD : va_D (fun q : Nat => s.heap.size ≤ q) (YW cy y0 r v1 f1 w1 g1 ++ XW cy x0 x v2 f3) := hD
  refine lv_pop hx hb dL_law_984 rfl ?_
  refine lv_aload_n hx hb dL_law_985 rfl (lv_at hl 1 rfl) ?_
  refine caVi (n := 0) (wr := XW cy x0 x v2 f3) (rest := []) hx hb hml hown hts hE hP hD hS hA (sY_X11_turning_1 l dC dI cy y0 r  v1 f1 w1 g1 hIv1 hCf1 hRf1) k_1960 k_1961 k_1962 k_114 k_1963 (by decide +kernel) ⟨Nat.le_of_ble_eq_true rfl, Nat.le_of_ble_eq_true rfl⟩ [0, 1, 2, 3, 4, 5, 6, 7, 8, 9, 10, 11, 12, 13, 14, 15, 16, 17, 18, 19, 20, 21, 22, 23, 24, 25, 26, 27, 28, 29, 30, 31, 32, 33, 34, 35, 36, 37, 38] [39, 40, 41, 42, 43, 44, 45, 46, 47, 48, 49, 50, 51, 52, 53, 54, 55, 56, 57, 58, 59, 60, 61, 62, 63, 64, 65, 66, 67, 68, 69, 70, 71, 72, 73, 74, 75, 76, 77, 78, 79, 80] (ly1 cy x0 y0 x r v2 f3 v1 f1 w1 g1) (ly2 cy x0 y0 x r v2 f3 v1 f1 w1 g1) (ly3 cy x0 y0 x r v2 f3 v1 f1 w1 g1) ly4 ly5 ly6 0 11 rfl rfl rfl hl.1 rfl (Nat.le_of_ble_eq_true rfl) dL_law_986 ⟨Nat.le_of_ble_eq_true rfl, Nat.le_of_ble_eq_true rfl⟩ (fun r4 u H locs hw hP hD hS => ?_)
  obtain ⟨v5, f6, w7, g8⟩ := u
  obtain ⟨hVy, hFy, hIv5, hCf6, hRf6, hk0y, hk1y, hk2y, hk3y, hk4y, hk5y, hk8y, hk9y, hk10y, hk13y, hk14y, hk15y, hk17y, hk18y, hk24y, hk25y, hk35y, hk36y, hk38y, hk39y⟩ := hw
  have hP : va_P (dC, dI) vwCl (XW cy x0 x v2 f3 ++ YW cy y0 r v5 f6 w7 g8) H := hP
  have hD : va_D (fun q : Nat => s.heap.size ≤ q) (XW cy x0 x v2 f3 ++ YW cy y0 r v5 f6 w7 g8) := hD
  refine lv_pop hx hb dL_law_989 rfl ?_
  refine lv_goto (tgt := 1413) hx hb dL_law_990 (by decide) ?_
  exact fin v2 f3 v5 f6 w7 g8 _ _ _ hIv2 hIv5 hCf6 hRf6 (R3.keep heq0 (KV.use hVx rfl) (KF.use hFx rfl) (KV.use hVy rfl) (KF.use hFy rfl)) hP hD hS hl
set_option maxHeartbeats 4000000 in
set_option maxRecDepth 100000 in
theorem law_29 {p : Program} {l : Launch} {e : Env} {s : State} {m : MethodId} {below : List Frame} {meth : Method} {c : Code} {dC : Nat → ClassId} {dI : Nat → Nat → Nat} {cy : Nat → ClassId} {b L : Nat} {xs : Nat → Int32} {Q : State → Prop} {x0 y0 : Nat} {x r : Nat → Nat} (hx : p.tables.exec = Jvm.exec) (hb : c.code = code) (hml : c.maxLocals = 4) (hown : s.vm.findClass RL = some m.cls) (hts : ∀ w ∈ BIG, w.before #[Value.ref b] s = true) (hE : ENV (dC, dI) cy s) (hF : SRF (dC, dI) s) (hT : STR (dC, dI) (fun q : Nat => s.heap.size ≤ q) s s.heap) (hX : va_X b L xs s s.heap) (hbl : b < s.heap.size) (hL : L ≤ 3072) {v : Nat → Int32} {f : Nat → Nat → Int32} {v1 : Nat → Int32} {f1 : Nat → Nat → Int32} {w1 : Int64} {g1 : Nat → Int64} {i : Int32} (hi0 : 0 ≤ i.toInt) (hi6 : i.toInt + 6 ≤ L) {H : Heap} {locs : List Loc} {ls : Array Slot} (hIv : XI v) (hIv1 : YI v1) (hCf1 : YC f1) (hRf1 : progOK (f1 4) (f1 5) (v1 9).toInt.toNat) (heq0 : R3 v f v1 f1) (hP : va_P (dC, dI) vwCl (XW cy x0 x v f ++ YW cy y0 r v1 f1 w1 g1) H) (hD : va_D (fun q : Nat => s.heap.size ≤ q) (XW cy x0 x v f ++ YW cy y0 r v1 f1 w1 g1)) (hS : va_S (fun q : Nat => s.heap.size ≤ q) s.heap H locs) (hl : lv_has ls 4 [(3, .int i), (2, .ref y0), (1, .ref x0), (0, .ref b)]) (fin : ∀ (v : Nat → Int32) (f : Nat → Nat → Int32) (v1 : Nat → Int32) (f1 : Nat → Nat → Int32) (w1 : Int64) (g1 : Nat → Int64) (H : Heap) (locs : List Loc) (ls : Array Slot), XI v → YI v1 → YC f1 → progOK (f1 4) (f1 5) (v1 9).toInt.toNat → R3 v f v1 f1 → va_P (dC, dI) vwCl (XW cy x0 x v f ++ YW cy y0 r v1 f1 w1 g1) H → va_D (fun q : Nat => s.heap.size ≤ q) (XW cy x0 x v f ++ YW cy y0 r v1 f1 w1 g1) → va_S (fun q : Nat => s.heap.size ≤ q) s.heap H locs → lv_has ls 4 [(3, .int i), (2, .ref y0), (1, .ref x0), (0, .ref b)] → W p l e room_1 s m #[Value.ref b] below meth c H locs 81 11738 Q (F0 m 1413 ls [])) : W p l e room_1 s m #[Value.ref b] below meth c H locs 81 11738 Q (F0 m 993 ls []) := by
  have hA : ∀ q : Nat, s.heap.size ≤ q → (fun q : Nat => s.heap.size ≤ q) q := fun _ h => h
  have hbA : ¬ (fun q : Nat => s.heap.size ≤ q) b := Nat.not_le.mpr hbl
  refine lv_aload_n hx hb dL_law_993 rfl (lv_at hl 2 rfl) ?_
  refine caVi (n := 0) (wr := YW cy y0 r v1 f1 w1 g1) (rest := []) hx hb hml hown hts hE hP hD hS hA (sX_X10_rags_1 l dC dI cy x0 x  v f hIv) k_1159 k_1160 k_1161 k_101 k_1162 (by decide +kernel) ⟨Nat.le_of_ble_eq_true rfl, Nat.le_of_ble_eq_true rfl⟩ [0, 1, 2, 3, 4, 5, 6, 7, 8, 9, 10, 11, 12, 13, 14, 15, 16, 17, 18, 19, 20, 21, 22, 23, 24, 25, 26, 27, 28, 29, 30, 31, 32, 33, 34, 35, 36, 37, 38, 39, 40, 41] [42, 43, 44, 45, 46, 47, 48, 49, 50, 51, 52, 53, 54, 55, 56, 57, 58, 59, 60, 61, 62, 63, 64, 65, 66, 67, 68, 69, 70, 71, 72, 73, 74, 75, 76, 77, 78, 79, 80] (lx1 cy x0 y0 x r v f v1 f1 w1 g1) (lx2 cy x0 y0 x r v f v1 f1 w1 g1) (lx3 cy x0 y0 x r v f v1 f1 w1 g1) lx4 lx5 lx6 0 10 rfl rfl rfl hl.1 rfl (Nat.le_of_ble_eq_true rfl) dL_law_994 ⟨Nat.le_of_ble_eq_true rfl, Nat.le_of_ble_eq_true rfl⟩ (fun r1 u H locs hw hP hD hS => ?_)
  obtain ⟨v2, f3⟩ := u
  obtain ⟨hVx, hFx, hIv2, hk0x, hk1x, hk7x, hk8x, hk9x, hk10x, hk31x, hk32x⟩ := hw
  have hP : va_P (dC, dI) vwCl (YW cy y0 r v1 f1 w1 g1 ++ XW cy x0 x v2 f3) H := hP
  have hD : va_D (fun q : Nat => s.heap.size ≤ q) (YW cy y0 r v1 f1 w1 g1 ++ XW cy x0 x v2 f3) := hD
  refine lv_pop hx hb dL_law_997 rfl ?_
  refine lv_aload_n hx hb dL_law_998 rfl (lv_at hl 1 rfl) ?_
  refine caVi (n := 0) (wr := XW cy x0 x v2 f3) (rest := []) hx hb hml hown hts hE hP hD hS hA (sY_X11_rags_1 l dC dI cy y0 r  v1 f1 w1 g1 hIv1 hCf1 hRf1) k_1964 k_1965 k_1966 k_114 k_1967 (by decide +kernel) ⟨Nat.le_of_ble_eq_true rfl, Nat.le_of_ble_eq_true rfl⟩ [0, 1, 2, 3, 4, 5, 6, 7, 8, 9, 10, 11, 12, 13, 14, 15, 16, 17, 18, 19, 20, 21, 22, 23, 24, 25, 26, 27, 28, 29, 30, 31, 32, 33, 34, 35, 36, 37, 38] [39, 40, 41, 42, 43, 44, 45, 46, 47, 48, 49, 50, 51, 52, 53, 54, 55, 56, 57, 58, 59, 60, 61, 62, 63, 64, 65, 66, 67, 68, 69, 70, 71, 72, 73, 74, 75, 76, 77, 78, 79, 80] (ly1 cy x0 y0 x r v2 f3 v1 f1 w1 g1) (ly2 cy x0 y0 x r v2 f3 v1 f1 w1 g1) (ly3 cy x0 y0 x r v2 f3 v1 f1 w1 g1) ly4 ly5 ly6 0 11 rfl rfl rfl hl.1 rfl (Nat.le_of_ble_eq_true rfl) dL_law_999 ⟨Nat.le_of_ble_eq_true rfl, Nat.le_of_ble_eq_true rfl⟩ (fun r4 u H locs hw hP hD hS => ?_)
  obtain ⟨v5, f6, w7, g8⟩ := u
  obtain ⟨hVy, hFy, hIv5, hCf6, hRf6, hk0y, hk1y, hk2y, hk3y, hk4y, hk5y, hk8y, hk9y, hk10y, hk13y, hk14y, hk15y, hk17y, hk18y, hk24y, hk25y, hk35y, hk36y, hk38y, hk39y⟩ := hw
  have hP : va_P (dC, dI) vwCl (XW cy x0 x v2 f3 ++ YW cy y0 r v5 f6 w7 g8) H := hP
  have hD : va_D (fun q : Nat => s.heap.size ≤ q) (XW cy x0 x v2 f3 ++ YW cy y0 r v5 f6 w7 g8) := hD
  refine lv_pop hx hb dL_law_1002 rfl ?_
  refine lv_goto (tgt := 1413) hx hb dL_law_1003 (by decide) ?_
  exact fin v2 f3 v5 f6 w7 g8 _ _ _ hIv2 hIv5 hCf6 hRf6 (R3.keep heq0 (KV.use hVx rfl) (KF.use hFx rfl) (KV.use hVy rfl) (KF.use hFy rfl)) hP hD hS hl
set_option maxHeartbeats 4000000 in
set_option maxRecDepth 100000 in
theorem law_30 {p : Program} {l : Launch} {e : Env} {s : State} {m : MethodId} {below : List Frame} {meth : Method} {c : Code} {dC : Nat → ClassId} {dI : Nat → Nat → Nat} {cy : Nat → ClassId} {b L : Nat} {xs : Nat → Int32} {Q : State → Prop} {x0 y0 : Nat} {x r : Nat → Nat} (hx : p.tables.exec = Jvm.exec) (hb : c.code = code) (hml : c.maxLocals = 4) (hown : s.vm.findClass RL = some m.cls) (hts : ∀ w ∈ BIG, w.before #[Value.ref b] s = true) (hE : ENV (dC, dI) cy s) (hF : SRF (dC, dI) s) (hT : STR (dC, dI) (fun q : Nat => s.heap.size ≤ q) s s.heap) (hX : va_X b L xs s s.heap) (hbl : b < s.heap.size) (hL : L ≤ 3072) {v : Nat → Int32} {f : Nat → Nat → Int32} {v1 : Nat → Int32} {f1 : Nat → Nat → Int32} {w1 : Int64} {g1 : Nat → Int64} {i : Int32} (hi0 : 0 ≤ i.toInt) (hi6 : i.toInt + 6 ≤ L) {H : Heap} {locs : List Loc} {ls : Array Slot} (hIv : XI v) (hIv1 : YI v1) (hCf1 : YC f1) (hRf1 : progOK (f1 4) (f1 5) (v1 9).toInt.toNat) (heq0 : R3 v f v1 f1) (hP : va_P (dC, dI) vwCl (XW cy x0 x v f ++ YW cy y0 r v1 f1 w1 g1) H) (hD : va_D (fun q : Nat => s.heap.size ≤ q) (XW cy x0 x v f ++ YW cy y0 r v1 f1 w1 g1)) (hS : va_S (fun q : Nat => s.heap.size ≤ q) s.heap H locs) (hl : lv_has ls 4 [(3, .int i), (2, .ref y0), (1, .ref x0), (0, .ref b)]) (fin : ∀ (v : Nat → Int32) (f : Nat → Nat → Int32) (v1 : Nat → Int32) (f1 : Nat → Nat → Int32) (w1 : Int64) (g1 : Nat → Int64) (H : Heap) (locs : List Loc) (ls : Array Slot), XI v → YI v1 → YC f1 → progOK (f1 4) (f1 5) (v1 9).toInt.toNat → R3 v f v1 f1 → va_P (dC, dI) vwCl (XW cy x0 x v f ++ YW cy y0 r v1 f1 w1 g1) H → va_D (fun q : Nat => s.heap.size ≤ q) (XW cy x0 x v f ++ YW cy y0 r v1 f1 w1 g1) → va_S (fun q : Nat => s.heap.size ≤ q) s.heap H locs → lv_has ls 4 [(3, .int i), (2, .ref y0), (1, .ref x0), (0, .ref b)] → W p l e room_1 s m #[Value.ref b] below meth c H locs 81 11738 Q (F0 m 1413 ls [])) : W p l e room_1 s m #[Value.ref b] below meth c H locs 81 11738 Q (F0 m 1006 ls []) := by
  have hA : ∀ q : Nat, s.heap.size ≤ q → (fun q : Nat => s.heap.size ≤ q) q := fun _ h => h
  have hbA : ¬ (fun q : Nat => s.heap.size ≤ q) b := Nat.not_le.mpr hbl
  refine lv_aload_n hx hb dL_law_1006 rfl (lv_at hl 2 rfl) ?_
  refine caVi (n := 0) (wr := YW cy y0 r v1 f1 w1 g1) (rest := []) hx hb hml hown hts hE hP hD hS hA (sX_X10_naked_1 l dC dI cy x0 x  v f hIv) k_1167 k_1168 k_1169 k_101 k_1170 (by decide +kernel) ⟨Nat.le_of_ble_eq_true rfl, Nat.le_of_ble_eq_true rfl⟩ [0, 1, 2, 3, 4, 5, 6, 7, 8, 9, 10, 11, 12, 13, 14, 15, 16, 17, 18, 19, 20, 21, 22, 23, 24, 25, 26, 27, 28, 29, 30, 31, 32, 33, 34, 35, 36, 37, 38, 39, 40, 41] [42, 43, 44, 45, 46, 47, 48, 49, 50, 51, 52, 53, 54, 55, 56, 57, 58, 59, 60, 61, 62, 63, 64, 65, 66, 67, 68, 69, 70, 71, 72, 73, 74, 75, 76, 77, 78, 79, 80] (lx1 cy x0 y0 x r v f v1 f1 w1 g1) (lx2 cy x0 y0 x r v f v1 f1 w1 g1) (lx3 cy x0 y0 x r v f v1 f1 w1 g1) lx4 lx5 lx6 0 10 rfl rfl rfl hl.1 rfl (Nat.le_of_ble_eq_true rfl) dL_law_1007 ⟨Nat.le_of_ble_eq_true rfl, Nat.le_of_ble_eq_true rfl⟩ (fun r1 u H locs hw hP hD hS => ?_)
  obtain ⟨v2, f3⟩ := u
  obtain ⟨hVx, hFx, hIv2, hk0x, hk1x, hk7x, hk8x, hk9x, hk10x, hk31x, hk32x⟩ := hw
  have hP : va_P (dC, dI) vwCl (YW cy y0 r v1 f1 w1 g1 ++ XW cy x0 x v2 f3) H := hP
  have hD : va_D (fun q : Nat => s.heap.size ≤ q) (YW cy y0 r v1 f1 w1 g1 ++ XW cy x0 x v2 f3) := hD
  refine lv_pop hx hb dL_law_1010 rfl ?_
  refine lv_aload_n hx hb dL_law_1011 rfl (lv_at hl 1 rfl) ?_
  refine caVi (n := 0) (wr := XW cy x0 x v2 f3) (rest := []) hx hb hml hown hts hE hP hD hS hA (sY_X11_naked_1 l dC dI cy y0 r  v1 f1 w1 g1 hIv1 hCf1 hRf1) k_1972 k_1973 k_1974 k_114 k_1975 (by decide +kernel) ⟨Nat.le_of_ble_eq_true rfl, Nat.le_of_ble_eq_true rfl⟩ [0, 1, 2, 3, 4, 5, 6, 7, 8, 9, 10, 11, 12, 13, 14, 15, 16, 17, 18, 19, 20, 21, 22, 23, 24, 25, 26, 27, 28, 29, 30, 31, 32, 33, 34, 35, 36, 37, 38] [39, 40, 41, 42, 43, 44, 45, 46, 47, 48, 49, 50, 51, 52, 53, 54, 55, 56, 57, 58, 59, 60, 61, 62, 63, 64, 65, 66, 67, 68, 69, 70, 71, 72, 73, 74, 75, 76, 77, 78, 79, 80] (ly1 cy x0 y0 x r v2 f3 v1 f1 w1 g1) (ly2 cy x0 y0 x r v2 f3 v1 f1 w1 g1) (ly3 cy x0 y0 x r v2 f3 v1 f1 w1 g1) ly4 ly5 ly6 0 11 rfl rfl rfl hl.1 rfl (Nat.le_of_ble_eq_true rfl) dL_law_1012 ⟨Nat.le_of_ble_eq_true rfl, Nat.le_of_ble_eq_true rfl⟩ (fun r4 u H locs hw hP hD hS => ?_)
  obtain ⟨v5, f6, w7, g8⟩ := u
  obtain ⟨hVy, hFy, hIv5, hCf6, hRf6, hk0y, hk1y, hk2y, hk3y, hk4y, hk5y, hk8y, hk9y, hk10y, hk13y, hk14y, hk15y, hk17y, hk18y, hk24y, hk25y, hk35y, hk36y, hk38y, hk39y⟩ := hw
  have hP : va_P (dC, dI) vwCl (XW cy x0 x v2 f3 ++ YW cy y0 r v5 f6 w7 g8) H := hP
  have hD : va_D (fun q : Nat => s.heap.size ≤ q) (XW cy x0 x v2 f3 ++ YW cy y0 r v5 f6 w7 g8) := hD
  refine lv_pop hx hb dL_law_1015 rfl ?_
  refine lv_goto (tgt := 1413) hx hb dL_law_1016 (by decide) ?_
  exact fin v2 f3 v5 f6 w7 g8 _ _ _ hIv2 hIv5 hCf6 hRf6 (R3.keep heq0 (KV.use hVx rfl) (KF.use hFx rfl) (KV.use hVy rfl) (KF.use hFy rfl)) hP hD hS hl
set_option maxHeartbeats 4000000 in
set_option maxRecDepth 100000 in
theorem law_31 {p : Program} {l : Launch} {e : Env} {s : State} {m : MethodId} {below : List Frame} {meth : Method} {c : Code} {dC : Nat → ClassId} {dI : Nat → Nat → Nat} {cy : Nat → ClassId} {b L : Nat} {xs : Nat → Int32} {Q : State → Prop} {x0 y0 : Nat} {x r : Nat → Nat} (hx : p.tables.exec = Jvm.exec) (hb : c.code = code) (hml : c.maxLocals = 4) (hown : s.vm.findClass RL = some m.cls) (hts : ∀ w ∈ BIG, w.before #[Value.ref b] s = true) (hE : ENV (dC, dI) cy s) (hF : SRF (dC, dI) s) (hT : STR (dC, dI) (fun q : Nat => s.heap.size ≤ q) s s.heap) (hX : va_X b L xs s s.heap) (hbl : b < s.heap.size) (hL : L ≤ 3072) {v : Nat → Int32} {f : Nat → Nat → Int32} {v1 : Nat → Int32} {f1 : Nat → Nat → Int32} {w1 : Int64} {g1 : Nat → Int64} {i : Int32} (hi0 : 0 ≤ i.toInt) (hi6 : i.toInt + 6 ≤ L) {H : Heap} {locs : List Loc} {ls : Array Slot} (hIv : XI v) (hIv1 : YI v1) (hCf1 : YC f1) (hRf1 : progOK (f1 4) (f1 5) (v1 9).toInt.toNat) (heq0 : R3 v f v1 f1) (hP : va_P (dC, dI) vwCl (XW cy x0 x v f ++ YW cy y0 r v1 f1 w1 g1) H) (hD : va_D (fun q : Nat => s.heap.size ≤ q) (XW cy x0 x v f ++ YW cy y0 r v1 f1 w1 g1)) (hS : va_S (fun q : Nat => s.heap.size ≤ q) s.heap H locs) (hl : lv_has ls 4 [(3, .int i), (2, .ref y0), (1, .ref x0), (0, .ref b)]) (fin : ∀ (v : Nat → Int32) (f : Nat → Nat → Int32) (v1 : Nat → Int32) (f1 : Nat → Nat → Int32) (w1 : Int64) (g1 : Nat → Int64) (H : Heap) (locs : List Loc) (ls : Array Slot), XI v → YI v1 → YC f1 → progOK (f1 4) (f1 5) (v1 9).toInt.toNat → R3 v f v1 f1 → va_P (dC, dI) vwCl (XW cy x0 x v f ++ YW cy y0 r v1 f1 w1 g1) H → va_D (fun q : Nat => s.heap.size ≤ q) (XW cy x0 x v f ++ YW cy y0 r v1 f1 w1 g1) → va_S (fun q : Nat => s.heap.size ≤ q) s.heap H locs → lv_has ls 4 [(3, .int i), (2, .ref y0), (1, .ref x0), (0, .ref b)] → W p l e room_1 s m #[Value.ref b] below meth c H locs 81 11738 Q (F0 m 1413 ls [])) : W p l e room_1 s m #[Value.ref b] below meth c H locs 81 11738 Q (F0 m 1019 ls []) := by
  have hA : ∀ q : Nat, s.heap.size ≤ q → (fun q : Nat => s.heap.size ≤ q) q := fun _ h => h
  have hbA : ¬ (fun q : Nat => s.heap.size ≤ q) b := Nat.not_le.mpr hbl
  refine lv_aload_n hx hb dL_law_1019 rfl (lv_at hl 2 rfl) ?_
  refine lv_aload_n hx hb dL_law_1020 rfl (lv_at hl 3 rfl) ?_
  refine lv_iload_n hx hb dL_law_1021 rfl (lv_at hl 0 rfl) ?_
  refine lv_iconst (v := 1) hx hb dL_law_1022 (by decide) ?_
  refine lv_iadd hx hb dL_law_1023 ?_
  refine lv_topi (fun t1 et1 => ?_)
  have rg2 := fb_rng i
  have zt1 : t1.toInt = i.toInt + 1 := by rw [et1]; exact add_i rfl (by decide) (by omega) (by omega)
  refine va_sld hx hb hX hbl hbA hS (vp_in_iff.mpr ⟨by omega, by omega⟩) dL_law_1024 ?_
  refine lv_topi (fun a3 ea3 => ?_)
  refine caVi (n := 1) (wr := YW cy y0 r v1 f1 w1 g1) (rest := []) hx hb hml hown hts hE hP hD hS hA (sX_X10_popular_1 l dC dI cy x0 x a3 v f hIv) k_1171 k_1172 k_1173 k_101 k_1174 (by decide +kernel) ⟨Nat.le_of_ble_eq_true rfl, Nat.le_of_ble_eq_true rfl⟩ [0, 1, 2, 3, 4, 5, 6, 7, 8, 9, 10, 11, 12, 13, 14, 15, 16, 17, 18, 19, 20, 21, 22, 23, 24, 25, 26, 27, 28, 29, 30, 31, 32, 33, 34, 35, 36, 37, 38, 39, 40, 41] [42, 43, 44, 45, 46, 47, 48, 49, 50, 51, 52, 53, 54, 55, 56, 57, 58, 59, 60, 61, 62, 63, 64, 65, 66, 67, 68, 69, 70, 71, 72, 73, 74, 75, 76, 77, 78, 79, 80] (lx1 cy x0 y0 x r v f v1 f1 w1 g1) (lx2 cy x0 y0 x r v f v1 f1 w1 g1) (lx3 cy x0 y0 x r v f v1 f1 w1 g1) lx4 lx5 lx6 0 10 rfl rfl rfl hl.1 rfl (Nat.le_of_ble_eq_true rfl) dL_law_1025 ⟨Nat.le_of_ble_eq_true rfl, Nat.le_of_ble_eq_true rfl⟩ (fun r4 u H locs hw hP hD hS => ?_)
  obtain ⟨v5, f6⟩ := u
  obtain ⟨hVx, hFx, hIv5, hk0x, hk1x, hk7x, hk8x, hk9x, hk10x, hk31x, hk32x⟩ := hw
  have hP : va_P (dC, dI) vwCl (YW cy y0 r v1 f1 w1 g1 ++ XW cy x0 x v5 f6) H := hP
  have hD : va_D (fun q : Nat => s.heap.size ≤ q) (YW cy y0 r v1 f1 w1 g1 ++ XW cy x0 x v5 f6) := hD
  refine lv_pop hx hb dL_law_1028 rfl ?_
  refine lv_aload_n hx hb dL_law_1029 rfl (lv_at hl 1 rfl) ?_
  refine lv_aload_n hx hb dL_law_1030 rfl (lv_at hl 3 rfl) ?_
  refine lv_iload_n hx hb dL_law_1031 rfl (lv_at hl 0 rfl) ?_
  refine lv_iconst (v := 1) hx hb dL_law_1032 (by decide) ?_
  refine lv_iadd hx hb dL_law_1033 ?_
  refine tI (y := t1) et1.symm ?_
  refine va_sld hx hb hX hbl hbA hS (vp_in_iff.mpr ⟨by omega, by omega⟩) dL_law_1034 ?_
  refine tI (y := a3) ea3.symm ?_
  refine caVi (n := 1) (wr := XW cy x0 x v5 f6) (rest := []) hx hb hml hown hts hE hP hD hS hA (sY_X11_popular_1 l dC dI cy y0 r a3 v1 f1 w1 g1 hIv1 hCf1 hRf1) k_1976 k_1977 k_1978 k_114 k_1979 (by decide +kernel) ⟨Nat.le_of_ble_eq_true rfl, Nat.le_of_ble_eq_true rfl⟩ [0, 1, 2, 3, 4, 5, 6, 7, 8, 9, 10, 11, 12, 13, 14, 15, 16, 17, 18, 19, 20, 21, 22, 23, 24, 25, 26, 27, 28, 29, 30, 31, 32, 33, 34, 35, 36, 37, 38] [39, 40, 41, 42, 43, 44, 45, 46, 47, 48, 49, 50, 51, 52, 53, 54, 55, 56, 57, 58, 59, 60, 61, 62, 63, 64, 65, 66, 67, 68, 69, 70, 71, 72, 73, 74, 75, 76, 77, 78, 79, 80] (ly1 cy x0 y0 x r v5 f6 v1 f1 w1 g1) (ly2 cy x0 y0 x r v5 f6 v1 f1 w1 g1) (ly3 cy x0 y0 x r v5 f6 v1 f1 w1 g1) ly4 ly5 ly6 0 11 rfl rfl rfl hl.1 rfl (Nat.le_of_ble_eq_true rfl) dL_law_1035 ⟨Nat.le_of_ble_eq_true rfl, Nat.le_of_ble_eq_true rfl⟩ (fun r7 u H locs hw hP hD hS => ?_)
  obtain ⟨v8, f9, w10, g11⟩ := u
  obtain ⟨hVy, hFy, hIv8, hCf9, hRf9, hk0y, hk1y, hk2y, hk3y, hk4y, hk5y, hk8y, hk9y, hk10y, hk13y, hk14y, hk15y, hk17y, hk18y, hk24y, hk25y, hk35y, hk36y, hk38y, hk39y⟩ := hw
  have hP : va_P (dC, dI) vwCl (XW cy x0 x v5 f6 ++ YW cy y0 r v8 f9 w10 g11) H := hP
  have hD : va_D (fun q : Nat => s.heap.size ≤ q) (XW cy x0 x v5 f6 ++ YW cy y0 r v8 f9 w10 g11) := hD
  refine lv_pop hx hb dL_law_1038 rfl ?_
  refine lv_goto (tgt := 1413) hx hb dL_law_1039 (by decide) ?_
  exact fin v5 f6 v8 f9 w10 g11 _ _ _ hIv5 hIv8 hCf9 hRf9 (R3.keep heq0 (KV.use hVx rfl) (KF.use hFx rfl) (KV.use hVy rfl) (KF.use hFy rfl)) hP hD hS hl
