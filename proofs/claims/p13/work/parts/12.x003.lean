set_option maxHeartbeats 4000000 in
set_option maxRecDepth 100000 in
theorem sX_J0_indexOf_7cf53_1 (NF : Nat) (l : Launch) (dC : Nat → ClassId) (dI : Nat → Nat → Nat) (cy : Nat → ClassId) (x0 : Nat) (x : Nat → Nat) (p1 : Int32) (v : Nat → Int32) (f : Nat → Nat → Int32) (hIv : XI v)  : ctIS l (dC, dI) cy yJ0_indexOf_7cf53 cJ0_indexOf_7cf53 3 .int 3 108 0 0 Unit [.ref (dI 100 0), .int p1, .int 0] (XW cy x0 x v f) (fun r u => gsX_J0_indexOf_7cf53_1 NF p1 v f = r) (fun u => XW cy x0 x v f) := by
  refine ctIS_of (by decide) (Nat.le_of_ble_eq_true rfl) (fun p e s m below meth c A ls Q hx hb hml hts hown hE hF hT hP hD hA hl ret => ?_)
  have hown : s.vm.findClass RJ0 = some m.cls := hown
  have hS : va_S A s.heap s.heap [] := va_S.rf
  have hl : lv_has ls 3 [(0, .ref (dI 100 0)), (1, .int p1), (2, .int 0)] := hl
  refine lv_aload_n hx hb dJ0_indexOf_7cf53_0 rfl (lv_at hl 0 rfl) ?_
  refine crVi (n := 0) (rest := []) hx hb hml hown hts hE hP hD hS hA hF hT (sX_J0_isLatin1_aae02_2 NF l dC dI cy x0 x  v f hIv ) k_585 k_586 k_587 k_115 k_588 (by decide +kernel) ⟨Nat.le_of_ble_eq_true rfl, Nat.le_of_ble_eq_true rfl⟩ 0 (by decide) rfl rfl (rfl) hl.1 rfl (Nat.le_of_ble_eq_true rfl) dJ0_indexOf_7cf53_1 (fun r1 u H locs hw hP hD hS => ?_)
  obtain ⟨hG2, hw⟩ := hw
  refine tI (y := 1) hw ?_
  refine lv_if_eq (tgt := 23) hx hb dJ0_indexOf_7cf53_4 (by decide) (fun c0 => absurd c0 (by decide)) (fun _ => ?_)
  refine lv_aload_n hx hb dJ0_indexOf_7cf53_7 rfl (lv_at hl 0 rfl) ?_
  refine vk_getf (q := (dI 100 0)) (v := .ref (dI 101 0)) hx hb (hT.1.1 0 (by decide)).2.2.1 hS hown (hts _ k_2059) (fun _ h9 => h9) dJ0_indexOf_7cf53_8 ?_
  refine lv_iload_n hx hb dJ0_indexOf_7cf53_11 rfl (lv_at hl 1 rfl) ?_
  refine lv_iload_n hx hb dJ0_indexOf_7cf53_12 rfl (lv_at hl 2 rfl) ?_
  refine lv_aload_n hx hb dJ0_indexOf_7cf53_13 rfl (lv_at hl 0 rfl) ?_
  refine crVi (n := 0) (rest := [.int 0, .int p1, .ref (dI 101 0)]) hx hb hml hown hts hE hP hD hS hA hF hT (sX_J0_length_8abf5_2 NF l dC dI cy x0 x  v f hIv ) k_632 k_572 k_573 k_115 k_574 (by decide +kernel) ⟨Nat.le_of_ble_eq_true rfl, Nat.le_of_ble_eq_true rfl⟩ 0 (by decide) rfl rfl (rfl) hl.1 rfl (Nat.le_of_ble_eq_true rfl) dJ0_indexOf_7cf53_14 (fun r3 u H locs hw hP hD hS => ?_)
  obtain ⟨hG4, hw⟩ := hw
  refine tI (y := 11) hw ?_
  refine csSi (n := 4) (rest := []) hx hb hml hown hts hE hP hD hS hA hF hT (sX_J1_indexOf_4cfef_1 NF l dC dI cy x0 x p1 v f hIv ) k_633 k_634 k_116 k_635 (by decide +kernel) ⟨Nat.le_of_ble_eq_true rfl, Nat.le_of_ble_eq_true rfl⟩ (rfl) hl.1 rfl (Nat.le_of_ble_eq_true rfl) dJ0_indexOf_7cf53_17 (fun r5 u H locs hw hP hD hS => ?_)
  have hG6 := hw
  refine lv_goto (tgt := 36) hx hb dJ0_indexOf_7cf53_20 (by decide) ?_
  exact ret r5 () _ _ _ _ _ _ rfl (gsX_J0_indexOf_7cf53_1_q0 hG6.symm) hP hD hS dJ0_indexOf_7cf53_36 (Nat.le_refl _) (Nat.le_refl _)
set_option maxHeartbeats 4000000 in
set_option maxRecDepth 100000 in
theorem sX_J0_indexOf_0f7a4_1 (NF : Nat) (l : Launch) (dC : Nat → ClassId) (dI : Nat → Nat → Nat) (cy : Nat → ClassId) (x0 : Nat) (x : Nat → Nat) (p1 : Int32) (v : Nat → Int32) (f : Nat → Nat → Int32) (hIv : XI v)  : ctIS l (dC, dI) cy yJ0_indexOf_0f7a4 cJ0_indexOf_0f7a4 2 .int 4 130 0 0 Unit [.ref (dI 100 0), .int p1] (XW cy x0 x v f) (fun r u => gsX_J0_indexOf_0f7a4_1 NF p1 v f = r) (fun u => XW cy x0 x v f) := by
  refine ctIS_of (by decide) (Nat.le_of_ble_eq_true rfl) (fun p e s m below meth c A ls Q hx hb hml hts hown hE hF hT hP hD hA hl ret => ?_)
  have hown : s.vm.findClass RJ0 = some m.cls := hown
  have hS : va_S A s.heap s.heap [] := va_S.rf
  have hl : lv_has ls 2 [(0, .ref (dI 100 0)), (1, .int p1)] := hl
  refine lv_aload_n hx hb dJ0_indexOf_0f7a4_0 rfl (lv_at hl 0 rfl) ?_
  refine lv_iload_n hx hb dJ0_indexOf_0f7a4_1 rfl (lv_at hl 1 rfl) ?_
  refine lv_iconst (v := 0) hx hb dJ0_indexOf_0f7a4_2 (by decide) ?_
  refine crVi (n := 2) (rest := []) hx hb hml hown hts hE hP hD hS hA hF hT (sX_J0_indexOf_7cf53_1 NF l dC dI cy x0 x p1 v f hIv ) k_628 k_629 k_630 k_115 k_631 (by decide +kernel) ⟨Nat.le_of_ble_eq_true rfl, Nat.le_of_ble_eq_true rfl⟩ 0 (by decide) rfl rfl (rfl) hl.1 rfl (Nat.le_of_ble_eq_true rfl) dJ0_indexOf_0f7a4_3 (fun r1 u H locs hw hP hD hS => ?_)
  have hG2 := hw
  exact ret r1 () _ _ _ _ _ _ rfl (gsX_J0_indexOf_0f7a4_1_q0 hG2.symm) hP hD hS dJ0_indexOf_0f7a4_6 (Nat.le_refl _) (Nat.le_refl _)
