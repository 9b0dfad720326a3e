section
variable {p : Program} {l : Launch} {e : Env} {R : Room} {s : State} {m : MethodId} {args : Array Value} {below : List Frame} {meth : Method} {c : Code} {H : Heap} {locs : List Loc} {cells slots : Nat} {Q : State → Prop} {pc : Nat} {ls : Array Slot} {rest st0 : List Value} {cc : ByteArray} {D : va_G} {cy : Nat → ClassId} {A : Nat → Prop} {ws wi wr : va_W} {mc ms : Nat} {S : Type} {wo : S → va_W}
  {y : MethodName} {bytes : ByteArray} {maxL nL index n fr lo : Nat} {rt : FieldType} {As : List Value} {own C : String} {b : Nat}
set_option maxHeartbeats 4000000 in
theorem casVi {post : Int32 → S → Prop} {T : u_T} {N : Nat} {fs : List Value} (hx : p.tables.exec = Jvm.exec) (hb : c.code = cc) (hml : c.maxLocals = nL) (hown : s.vm.findClass own = some m.cls) (hts : ∀ w ∈ BIG, w.before args s = true) (hE : ENV D cy s) (hP : va_P D vwCl ws H) (hD : va_D A ws) (hS : va_S A s.heap H locs) (hA : ∀ q, s.heap.size ≤ q → A q)
    (hF : SRF D s) (hT : STR D A s s.heap) (hM : ctIS l D cy y bytes maxL rt fr lo mc ms S (.ref b :: As) wi post wo)
    (h1 : Cond.methodLink own index y ∈ BIG) (h2 : Cond.instanceMethod y ∈ BIG) (h3 : Cond.selects C y y ∈ BIG) (h4 : Cond.initialized C ∈ BIG) (h5 : Cond.code y bytes maxL (some rt) ∈ BIG)
    (hd : y.cls = C ∧ y.cls ≠ "java/lang/invoke/MethodHandle" ∧ y.cls ≠ "java/lang/invoke/VarHandle" ∧ (parseMethodDescriptor y.desc).map (fun d => d.parameters.length) = some n) (hR : fr + 1 ≤ R.frames ∧ 8 + (maxL + 11) + lo ≤ R.locals)
    (isC isR : List Nat) (hC1 : isC.filterMap (fun i => ws[i]?) = wi) (hC : isC.map (fun i => ws[i]?) = wi.map some) (hRR : isR.map (fun i => ws[i]?) = wr.map some) (hnC : va_nd isC = true) (hnR : va_nd isR = true) (hdis : ∀ i ∈ isR, i ∉ isC)
    (q0 ci : Nat) (hc : vwCl[ci]? = some (C, T, N)) (he : wi[q0]? = some (b, .inr (ci, fs))) (hn : As.length = n) (hz : ls.size = nL) (hst : st0 = As.reverse ++ .ref b :: rest) (hW : (rest.map fun v => v.category).sum ≤ 8) (hdg : decode cc pc = .ok (.invokevirtual index, 3)) (hcs : cells + mc ≤ R.cells ∧ slots + ms ≤ R.slots)
    (kk : ∀ (r : Int32) (u : S) (H1 : Heap) (locs1 : List Loc), post r u → va_P D vwCl (wr ++ wo u) H1 → va_D A (wr ++ wo u) → va_S A s.heap H1 locs1 → W p l e R s m args below meth c H1 locs1 (cells + mc) (slots + ms) Q (F0 m (pc + 3) ls (.int r :: rest))) : W p l e R s m args below meth c H locs cells slots Q (F0 m pc ls st0) := by
  have hPc := hP.sub (ws' := wi) isC hC1
  have hDc := hD.sub (ws' := wi) isC hnC hC
  have hFc := va_free (wc := wi) hD hS hA isC hC
  refine va_calli (va_runV (C := C) (As := As) (rest := rest) ⟨hx, hb, hml, hown, hts⟩ (hM H.size) (cwV n hts (goodV h1 h2 h3 h4 h5) rfl rfl rfl hd hR) ⟨fun a U g mk q => by obtain ⟨q0, q1, qP, qE, qD, qF, qT⟩ := q; exact ⟨q0, q1, qP, qE.same rfl, qD, qF.same rfl, qT.moved (Vm.Alike.refl _)⟩, va_recv hE.1 hPc hc he, fun U hU hW => ⟨rfl, by rw [hU], by rw [hU]; exact hPc, hE.warm hW, hDc.weaken (fun _ _ _ _ => trivial), hF.warm hW, hT.go hS hFc hU hW⟩⟩ rfl hn hz hst (lv_room hW) hdg hcs) hS (fun q _ h => hFc q h) hFc (fun r u t H1 locs1 ht hvm hw hB hz1 hk1 hS1 => ?_)
  obtain ⟨hP1, hD1⟩ := hB
  rw [ht] at hP1
  obtain ⟨hPj, hDj⟩ := va_join (wr := wr) (w1 := wo u) hP hD isC isR hC hRR hnR hdis hk1 hFc hP1 hD1
  exact kk r u H1 locs1 hw hPj hDj hS1
end
set_option maxHeartbeats 4000000 in
set_option maxRecDepth 100000 in
theorem qsX_X9_hasRoom_1 (l : Launch) (dC : Nat → ClassId) (dI : Nat → Nat → Nat) (cy : Nat → ClassId) (x0 : Nat) (x : Nat → Nat)  (v : Nat → Int32) (f : Nat → Nat → Int32) (hIv : XI v)  : ctI l (dC, dI) cy yX9_hasRoom cX9_hasRoom 1 .boolean 1 60 0 0 Unit [.ref (x 0)] (XW cy x0 x v f) (fun r u => ((r = 1 ∧ (v 1).toInt ≤ 1580) ∨ (r = 0 ∧ 1580 < (v 1).toInt))) (fun u => XW cy x0 x v f) := by
  refine ctI_of (by decide) (Nat.le_of_ble_eq_true rfl) (fun p e s m below meth c A ls Q hx hb hml hts hown hE hP hD hA hl ret => ?_)
  have hown : s.vm.findClass RX9 = some m.cls := hown
  have hS : va_S A s.heap s.heap [] := va_S.rf
  have hl : lv_has ls 1 [(0, .ref (x 0))] := hl
  refine lv_aload_n hx hb dX9_hasRoom_0 rfl (lv_at hl 0 rfl) ?_
  refine va_get (D := (dC, dI)) (ci := 9) (v := .int (v 1)) (C := RX9) (T := TX9) (N := 6) hx hb hts inB_9 hown hE.1 hP 1 rfl rfl 1 (by decide) (hts _ k_137) (fun _ h9 => h9) rfl dX9_hasRoom_1 ?_
  have b1_v : 0 ≤ (v 1).toInt ∧ (v 1).toInt ≤ 1600 := XI.b hIv 1 (by decide)
  refine lv_bipush (v := 20) hx hb dX9_hasRoom_4 (by decide) ?_
  refine lv_iadd hx hb dX9_hasRoom_6 ?_
  refine lv_topi (fun t1 et1 => ?_)
  have rg2 := fb_rng (v 1)
  have zt1 : t1.toInt = (v 1).toInt + 20 := by rw [et1]; exact add_i rfl (by decide) (by omega) (by omega)
  refine lv_sipush (v := 1600) hx hb dX9_hasRoom_7 (by decide) ?_
  refine lv_icmp_gt (tgt := 17) hx hb dX9_hasRoom_10 (by decide) (fun c3 => ?_) (fun c3 => ?_)
  · skip
    have zc3 : 1600 < t1.toInt := by rw [fa_lt, show (1600 : Int32).toInt = 1600 from by decide] at c3; exact c3
    refine lv_iconst (v := 0) hx hb dX9_hasRoom_17 (by decide) ?_
    exact ret 0 () _ _ _ _ _ _ rfl (Or.inr ⟨rfl, by omega⟩) hP hD hS dX9_hasRoom_18 (Nat.le_refl _) (Nat.le_refl _)
  · skip
    have zc3 : ¬ (1600 < t1.toInt) := by rw [fa_lt, show (1600 : Int32).toInt = 1600 from by decide] at c3; exact c3
    refine lv_iconst (v := 1) hx hb dX9_hasRoom_13 (by decide) ?_
    refine lv_goto (tgt := 18) hx hb dX9_hasRoom_14 (by decide) ?_
    exact ret 1 () _ _ _ _ _ _ rfl (Or.inl ⟨rfl, by omega⟩) hP hD hS dX9_hasRoom_18 (Nat.le_refl _) (Nat.le_refl _)
set_option maxHeartbeats 4000000 in
set_option maxRecDepth 100000 in
theorem qsX_X9_append_1 (l : Launch) (dC : Nat → ClassId) (dI : Nat → Nat → Nat) (cy : Nat → ClassId) (x0 : Nat) (x : Nat → Nat) (p1 : Int32) (v : Nat → Int32) (f : Nat → Nat → Int32) (hIv : XI v)  (hf0 : (v 1).toInt ≤ 1596) : ctV l (dC, dI) cy yX9_append cX9_append 3 1 60 0 0 ((Nat → Int32) × (Nat → Nat → Int32)) [.ref (x 0), .int p1] (XW cy x0 x v f) (fun u => XI u.1 ∧ u.1 0 = v 0 ∧ u.1 9 = v 9 ∧ u.1 10 = v 10 ∧ u.1 31 = v 31 ∧ u.1 32 = v 32 ∧ ((u.1 1).toInt = (v 1).toInt + 4)) (fun u => XW cy x0 x u.1 u.2) := by
  refine ctV_of (by decide) (Nat.le_of_ble_eq_true rfl) (fun p e s m below meth c A ls Q hx hb hml hts hown hnm hE hP hD hA hl ret => ?_)
  have hown : s.vm.findClass RX9 = some m.cls := hown
  have hS : va_S A s.heap s.heap [] := va_S.rf
  have hl : lv_has ls 3 [(0, .ref (x 0)), (1, .int p1)] := hl
  refine lv_bipush (v := 24) hx hb dX9_append_0 (by decide) ?_
  refine lv_istore_n (lv' := [(2, .int 24), (0, .ref (x 0)), (1, .int p1)]) hx hb dX9_append_2 rfl hl (by decide) rfl (fun ls hl => ?_)
  have lp1 : ∀ (n1 : Nat) (l2_1 : Int32) (v1 : Nat → Int32) (f1 : Nat → Nat → Int32), XI v1 → v1 0 = (v 0) → v1 9 = (v 9) → v1 10 = (v 10) → v1 31 = (v 31) → v1 32 = (v 32) → ((-8 : Int) ≤ l2_1.toInt ∧ l2_1.toInt ≤ 24) → (8 * (v1 1).toInt + l2_1.toInt = 8 * (v 1).toInt + 24) → (l2_1.toInt + 8).toNat < n1 → ∀ (H : Heap) (locs : List Loc) (ls : Array Slot), va_P (dC, dI) vwCl (XW cy x0 x v1 f1) H → va_D A (XW cy x0 x v1 f1) → va_S A s.heap H locs → lv_has ls 3 [(2, .int l2_1), (0, .ref (x 0)), (1, .int p1)] → W p l e { frames := 1, cells := 0, slots := 0, locals := 60 } s m ([.ref (x 0), .int p1] : List Value).toArray below meth c H locs 0 0 Q (F0 m 3 ls []) := by
    intro n1
    induction n1 with
    | zero => intro l2_1 v1 f1 hIv1 hq0_v1 hq9_v1 hq10_v1 hq31_v1 hq32_v1 hr2_1 hx0_1 hm; exact absurd hm (Nat.not_lt_zero _)
    | succ n1 ih1 =>
      intro l2_1 v1 f1 hIv1 hq0_v1 hq9_v1 hq10_v1 hq31_v1 hq32_v1 hr2_1 hx0_1 hm1 H locs ls hP hD hS hl
      have b1_v1 : 0 ≤ (v1 1).toInt ∧ (v1 1).toInt ≤ 1600 := XI.b hIv1 1 (by decide)
      refine lv_iload_n hx hb dX9_append_3 rfl (lv_at hl 0 rfl) ?_
      refine lv_if_lt (tgt := 46) hx hb dX9_append_4 (by decide) (fun c2 => ?_) (fun c2 => ?_)
      · skip
        have zc2 : l2_1.toInt < 0 := by rw [fa_lt, show (0 : Int32).toInt = 0 from by decide] at c2; exact c2
        exact ret (v1, f1) _ _ _ _ _ _ ⟨hIv1, (show v1 0 = v 0 from hq0_v1), (show v1 9 = v 9 from hq9_v1), (show v1 10 = v 10 from hq10_v1), (show v1 31 = v 31 from hq31_v1), (show v1 32 = v 32 from hq32_v1), (by show (v1 1).toInt = (v 1).toInt + 4; omega)⟩ hP hD hS dX9_append_46 (Nat.le_refl _) (Nat.le_refl _)
      · skip
        have zc2 : ¬ (l2_1.toInt < 0) := by rw [fa_lt, show (0 : Int32).toInt = 0 from by decide] at c2; exact c2
        refine lv_aload_n hx hb dX9_append_7 rfl (lv_at hl 1 rfl) ?_
        refine va_get (D := (dC, dI)) (ci := 9) (v := .int (v1 1)) (C := RX9) (T := TX9) (N := 6) hx hb hts inB_9 hown hE.1 hP 1 rfl rfl 1 (by decide) (hts _ k_137) (fun _ h9 => h9) rfl dX9_append_8 ?_
        refine lv_sipush (v := 1600) hx hb dX9_append_11 (by decide) ?_
        refine lv_icmp_ge (tgt := 46) hx hb dX9_append_14 (by decide) (fun c3 => ?_) (fun c3 => ?_)
        · skip
          have zc3 : 1600 ≤ (v1 1).toInt := by rw [fa_le, show (1600 : Int32).toInt = 1600 from by decide] at c3; exact c3
          exact ret (v1, f1) _ _ _ _ _ _ ⟨hIv1, (show v1 0 = v 0 from hq0_v1), (show v1 9 = v 9 from hq9_v1), (show v1 10 = v 10 from hq10_v1), (show v1 31 = v 31 from hq31_v1), (show v1 32 = v 32 from hq32_v1), (by show (v1 1).toInt = (v 1).toInt + 4; omega)⟩ hP hD hS dX9_append_46 (Nat.le_refl _) (Nat.le_refl _)
        · skip
          have zc3 : ¬ (1600 ≤ (v1 1).toInt) := by rw [fa_le, show (1600 : Int32).toInt = 1600 from by decide] at c3; exact c3
          refine lv_aload_n hx hb dX9_append_17 rfl (lv_at hl 1 rfl) ?_
          refine va_get (D := (dC, dI)) (ci := 9) (v := .ref (x 1)) (C := RX9) (T := TX9) (N := 6) hx hb hts inB_9 hown hE.1 hP 1 rfl rfl 0 (by decide) (hts _ k_136) (fun _ h9 => h9) rfl dX9_append_18 ?_
          refine lv_aload_n hx hb dX9_append_21 rfl (lv_at hl 1 rfl) ?_
          refine va_get (D := (dC, dI)) (ci := 9) (v := .int (v1 1)) (C := RX9) (T := TX9) (N := 6) hx hb hts inB_9 hown hE.1 hP 1 rfl rfl 1 (by decide) (hts _ k_137) (fun _ h9 => h9) rfl dX9_append_22 ?_
          refine lv_iload_n hx hb dX9_append_25 rfl (lv_at hl 2 rfl) ?_
          refine lv_iload_n hx hb dX9_append_26 rfl (lv_at hl 0 rfl) ?_
          refine lv_ishr hx hb dX9_append_27 ?_
          refine lv_topi (fun t4 et4 => ?_)
          refine lv_i2b hx hb dX9_append_28 rfl ?_
          refine lv_topi (fun t5 et5 => ?_)
          refine stB hx hb hE hP hD hS 2 rfl (vp_in_iff.mpr ⟨by omega, by omega⟩) rfl dX9_append_29 (fun H locs hP hD hS => ?_)
          obtain ⟨f6, hP, hD⟩ : ∃ fz9, va_P (dC, dI) vwCl (XW cy x0 x v1 fz9) H ∧ va_D A (XW cy x0 x v1 fz9) := ⟨upd2 f1 0 (upd (f1 0) (v1 1).toNatClampNeg (vp_nar .byte t5)), hP, hD⟩
          refine lv_aload_n hx hb dX9_append_30 rfl (lv_at hl 1 rfl) ?_
          refine lv_dup hx hb dX9_append_31 rfl ?_
          refine va_get (D := (dC, dI)) (ci := 9) (v := .int (v1 1)) (C := RX9) (T := TX9) (N := 6) hx hb hts inB_9 hown hE.1 hP 1 rfl rfl 1 (by decide) (hts _ k_137) (fun _ h9 => h9) rfl dX9_append_32 ?_
          refine lv_iconst (v := 1) hx hb dX9_append_35 (by decide) ?_
          refine lv_iadd hx hb dX9_append_36 ?_
          refine lv_topi (fun t7 et7 => ?_)
          have rg8 := fb_rng (v1 1)
          have zt7 : t7.toInt = (v1 1).toInt + 1 := by rw [et7]; exact add_i rfl (by decide) (by omega) (by omega)
          refine va_put (D := (dC, dI)) (ci := 9) (v := .int t7) (ty := tyX9 1) (C := RX9) (T := TX9) (N := 6) hx hb hts inB_9 tyX9 tyX9_ok nmX9 hown hE.1 hP hD hS 1 rfl rfl 1 (by decide) (hts _ k_137) (fun _ h9 => h9) rfl (tyX9_ok 1 (by decide)) rfl rfl (Nat.le_of_ble_eq_true rfl) dX9_append_37 (fun H locs hP hD hS => ?_)
          have hP : va_P (dC, dI) vwCl (XW cy x0 x (upd v1 1 t7) f6) H := hP
          have hD : va_D A (XW cy x0 x (upd v1 1 t7) f6) := hD
          obtain ⟨t9, et9⟩ : ∃ y : Int32, y = l2_1 + (-8) := ⟨_, rfl⟩
          have rg10 := fb_rng l2_1
          have zt9 : t9.toInt = l2_1.toInt + (-8) := by rw [et9]; exact add_i rfl (by decide) (by omega) (by omega)
          refine lv_iinc (v := t9) (lv' := [(2, .int t9), (0, .ref (x 0)), (1, .int p1)]) hx hb dX9_append_40 hl (k := 0) rfl (by rw [et9]; rfl) (by decide) rfl (fun ls hl => ?_)
          refine lv_goto (tgt := 3) hx hb dX9_append_43 (by decide) ?_
          have rg11 := fb_rng t9
          exact ih1 t9 (upd v1 1 t7) f6 (XI.upd (j := 1) (x := t7) hIv1 (show (0 : Int) ≤ t7.toInt by omega) (show t7.toInt ≤ (1600 : Int) by omega)) hq0_v1 hq9_v1 hq10_v1 hq31_v1 hq32_v1 ⟨show (-8 : Int) ≤ t9.toInt by omega, show t9.toInt ≤ (24 : Int) by omega⟩ (by show 8 * t7.toInt + t9.toInt = 8 * (v 1).toInt + 24; omega) (by show (t9.toInt + 8).toNat < n1; omega) _ _ _ hP hD hS (lv_sub hl [0, 1, 2] rfl)
  exact lp1 _ 24 v f hIv rfl rfl rfl rfl rfl ⟨by decide, by decide⟩ (by have q2 : (24 : Int32).toInt = 24 := (by decide); show 8 * (v 1).toInt + (24 : Int32).toInt = 8 * (v 1).toInt + 24; omega) (Nat.lt_succ_self _) _ _ _ hP hD hS (lv_sub hl [0, 1, 2] rfl)
set_option maxHeartbeats 4000000 in
set_option maxRecDepth 100000 in
theorem qsX_X10_feed_1 (l : Launch) (dC : Nat → ClassId) (dI : Nat → Nat → Nat) (cy : Nat → ClassId) (x0 : Nat) (x : Nat → Nat) (p1 : Int32) (p2 : Int32) (p3 : Int32) (p4 : Int32) (p5 : Int32) (v : Nat → Int32) (f : Nat → Nat → Int32) (hIv : XI v)  : ctI l (dC, dI) cy yX10_feed cX10_feed 6 .int 2 82 0 0 ((Nat → Int32) × (Nat → Nat → Int32)) [.ref x0, .int p1, .int p2, .int p3, .int p4, .int p5] (XW cy x0 x v f) (fun r u => XI u.1 ∧ u.1 0 = v 0 ∧ u.1 9 = v 9 ∧ u.1 10 = v 10 ∧ u.1 31 = v 31 ∧ u.1 32 = v 32 ∧ ((r.toInt = -1 ∧ (u.1 1).toInt = (v 1).toInt ∧ 1580 < (v 1).toInt) ∨ (r.toInt = (u.1 1).toInt ∧ (u.1 1).toInt = (v 1).toInt + 20 ∧ (v 1).toInt ≤ 1580))) (fun u => XW cy x0 x u.1 u.2) := by
  refine ctI_of (by decide) (Nat.le_of_ble_eq_true rfl) (fun p e s m below meth c A ls Q hx hb hml hts hown hE hP hD hA hl ret => ?_)
  have hown : s.vm.findClass RX10 = some m.cls := hown
  have hS : va_S A s.heap s.heap [] := va_S.rf
  have hl : lv_has ls 6 [(0, .ref x0), (1, .int p1), (2, .int p2), (3, .int p3), (4, .int p4), (5, .int p5)] := hl
  refine lv_aload_n hx hb dX10_feed_0 rfl (lv_at hl 0 rfl) ?_
  refine va_get (D := (dC, dI)) (ci := 10) (v := .ref (x 0)) (C := RX10) (T := TX10) (N := 10) hx hb hts inB_10 hown hE.1 hP 0 rfl rfl 0 (by decide) (hts _ k_491) (fun _ h9 => h9) rfl dX10_feed_1 ?_
  refine cbVi (n := 0) (rest := []) hx hb hml hown hts hE hP hD hS hA (qsX_X9_hasRoom_1 l dC dI cy x0 x  v f hIv ) k_526 k_527 k_528 k_102 k_529 (by decide +kernel) ⟨Nat.le_of_ble_eq_true rfl, Nat.le_of_ble_eq_true rfl⟩ 1 9 rfl rfl (rfl) hl.1 rfl (Nat.le_of_ble_eq_true rfl) dX10_feed_4 (fun r1 u H locs hw hP hD hS => ?_)
  rcases hw with ⟨g2, g2_0⟩ | ⟨g2, g2_0⟩
  · skip
    subst g2
    refine lv_if_ne (tgt := 12) hx hb dX10_feed_7 (by decide) (fun _ => ?_) (fun c0 => absurd c0 (by decide))
    refine lv_aload_n hx hb dX10_feed_12 rfl (lv_at hl 0 rfl) ?_
    refine va_get (D := (dC, dI)) (ci := 10) (v := .ref (x 0)) (C := RX10) (T := TX10) (N := 10) hx hb hts inB_10 hown hE.1 hP 0 rfl rfl 0 (by decide) (hts _ k_491) (fun _ h9 => h9) rfl dX10_feed_13 ?_
    refine lv_iload_n hx hb dX10_feed_16 rfl (lv_at hl 1 rfl) ?_
    refine cbVv (n := 1) (rest := []) hx hb hml hown hts hE hP hD hS hA (qsX_X9_append_1 l dC dI cy x0 x p1 v f hIv (by show (v 1).toInt ≤ 1596; omega)) k_530 k_531 k_532 k_102 k_533 (by decide +kernel) ⟨Nat.le_of_ble_eq_true rfl, Nat.le_of_ble_eq_true rfl⟩ 1 9 rfl rfl (rfl) hl.1 rfl (Nat.le_of_ble_eq_true rfl) dX10_feed_17 (fun u H locs hw hP hD hS => ?_)
    obtain ⟨v3, f4⟩ := u
    obtain ⟨hIv3, hk0_v3, hk9_v3, hk10_v3, hk31_v3, hk32_v3, pv5⟩ := hw
    have hP : va_P (dC, dI) vwCl (XW cy x0 x v3 f4) H := hP
    have hD : va_D A (XW cy x0 x v3 f4) := hD
    have b1_v3 : 0 ≤ (v3 1).toInt ∧ (v3 1).toInt ≤ 1600 := XI.b hIv3 1 (by decide)
    have pv5 : (v3 1).toInt = (v 1).toInt + 4 := pv5
    have hq0_v3 : v3 0 = (v 0) := hk0_v3
    have hq9_v3 : v3 9 = (v 9) := hk9_v3
    have hq10_v3 : v3 10 = (v 10) := hk10_v3
    have hq31_v3 : v3 31 = (v 31) := hk31_v3
    have hq32_v3 : v3 32 = (v 32) := hk32_v3
    refine lv_aload_n hx hb dX10_feed_20 rfl (lv_at hl 0 rfl) ?_
    refine va_get (D := (dC, dI)) (ci := 10) (v := .ref (x 0)) (C := RX10) (T := TX10) (N := 10) hx hb hts inB_10 hown hE.1 hP 0 rfl rfl 0 (by decide) (hts _ k_491) (fun _ h9 => h9) rfl dX10_feed_21 ?_
    refine lv_iload_n hx hb dX10_feed_24 rfl (lv_at hl 2 rfl) ?_
    refine cbVv (n := 1) (rest := []) hx hb hml hown hts hE hP hD hS hA (qsX_X9_append_1 l dC dI cy x0 x p2 v3 f4 hIv3 (by show (v3 1).toInt ≤ 1596; omega)) k_530 k_531 k_532 k_102 k_533 (by decide +kernel) ⟨Nat.le_of_ble_eq_true rfl, Nat.le_of_ble_eq_true rfl⟩ 1 9 rfl rfl (rfl) hl.1 rfl (Nat.le_of_ble_eq_true rfl) dX10_feed_25 (fun u H locs hw hP hD hS => ?_)
    obtain ⟨v6, f7⟩ := u
    obtain ⟨hIv6, hk0_v6, hk9_v6, hk10_v6, hk31_v6, hk32_v6, pv8⟩ := hw
    have hP : va_P (dC, dI) vwCl (XW cy x0 x v6 f7) H := hP
    have hD : va_D A (XW cy x0 x v6 f7) := hD
    have b1_v6 : 0 ≤ (v6 1).toInt ∧ (v6 1).toInt ≤ 1600 := XI.b hIv6 1 (by decide)
    have pv8 : (v6 1).toInt = (v3 1).toInt + 4 := pv8
    have hq0_v6 : v6 0 = (v 0) := hk0_v6.trans hq0_v3
    have hq9_v6 : v6 9 = (v 9) := hk9_v6.trans hq9_v3
    have hq10_v6 : v6 10 = (v 10) := hk10_v6.trans hq10_v3
    have hq31_v6 : v6 31 = (v 31) := hk31_v6.trans hq31_v3
    have hq32_v6 : v6 32 = (v 32) := hk32_v6.trans hq32_v3
    refine lv_aload_n hx hb dX10_feed_28 rfl (lv_at hl 0 rfl) ?_
    refine va_get (D := (dC, dI)) (ci := 10) (v := .ref (x 0)) (C := RX10) (T := TX10) (N := 10) hx hb hts inB_10 hown hE.1 hP 0 rfl rfl 0 (by decide) (hts _ k_491) (fun _ h9 => h9) rfl dX10_feed_29 ?_
    refine lv_iload_n hx hb dX10_feed_32 rfl (lv_at hl 3 rfl) ?_
    refine cbVv (n := 1) (rest := []) hx hb hml hown hts hE hP hD hS hA (qsX_X9_append_1 l dC dI cy x0 x p3 v6 f7 hIv6 (by show (v6 1).toInt ≤ 1596; omega)) k_530 k_531 k_532 k_102 k_533 (by decide +kernel) ⟨Nat.le_of_ble_eq_true rfl, Nat.le_of_ble_eq_true rfl⟩ 1 9 rfl rfl (rfl) hl.1 rfl (Nat.le_of_ble_eq_true rfl) dX10_feed_33 (fun u H locs hw hP hD hS => ?_)
    obtain ⟨v9, f10⟩ := u
    obtain ⟨hIv9, hk0_v9, hk9_v9, hk10_v9, hk31_v9, hk32_v9, pv11⟩ := hw
    have hP : va_P (dC, dI) vwCl (XW cy x0 x v9 f10) H := hP
    have hD : va_D A (XW cy x0 x v9 f10) := hD
    have b1_v9 : 0 ≤ (v9 1).toInt ∧ (v9 1).toInt ≤ 1600 := XI.b hIv9 1 (by decide)
    have pv11 : (v9 1).toInt = (v6 1).toInt + 4 := pv11
    have hq0_v9 : v9 0 = (v 0) := hk0_v9.trans hq0_v6
    have hq9_v9 : v9 9 = (v 9) := hk9_v9.trans hq9_v6
    have hq10_v9 : v9 10 = (v 10) := hk10_v9.trans hq10_v6
    have hq31_v9 : v9 31 = (v 31) := hk31_v9.trans hq31_v6
    have hq32_v9 : v9 32 = (v 32) := hk32_v9.trans hq32_v6
    refine lv_aload_n hx hb dX10_feed_36 rfl (lv_at hl 0 rfl) ?_
    refine va_get (D := (dC, dI)) (ci := 10) (v := .ref (x 0)) (C := RX10) (T := TX10) (N := 10) hx hb hts inB_10 hown hE.1 hP 0 rfl rfl 0 (by decide) (hts _ k_491) (fun _ h9 => h9) rfl dX10_feed_37 ?_
    refine lv_iload hx hb dX10_feed_40 (lv_at hl 4 rfl) ?_
    refine cbVv (n := 1) (rest := []) hx hb hml hown hts hE hP hD hS hA (qsX_X9_append_1 l dC dI cy x0 x p4 v9 f10 hIv9 (by show (v9 1).toInt ≤ 1596; omega)) k_530 k_531 k_532 k_102 k_533 (by decide +kernel) ⟨Nat.le_of_ble_eq_true rfl, Nat.le_of_ble_eq_true rfl⟩ 1 9 rfl rfl (rfl) hl.1 rfl (Nat.le_of_ble_eq_true rfl) dX10_feed_42 (fun u H locs hw hP hD hS => ?_)
    obtain ⟨v12, f13⟩ := u
    obtain ⟨hIv12, hk0_v12, hk9_v12, hk10_v12, hk31_v12, hk32_v12, pv14⟩ := hw
    have hP : va_P (dC, dI) vwCl (XW cy x0 x v12 f13) H := hP
    have hD : va_D A (XW cy x0 x v12 f13) := hD
    have b1_v12 : 0 ≤ (v12 1).toInt ∧ (v12 1).toInt ≤ 1600 := XI.b hIv12 1 (by decide)
    have pv14 : (v12 1).toInt = (v9 1).toInt + 4 := pv14
    have hq0_v12 : v12 0 = (v 0) := hk0_v12.trans hq0_v9
    have hq9_v12 : v12 9 = (v 9) := hk9_v12.trans hq9_v9
    have hq10_v12 : v12 10 = (v 10) := hk10_v12.trans hq10_v9
    have hq31_v12 : v12 31 = (v 31) := hk31_v12.trans hq31_v9
    have hq32_v12 : v12 32 = (v 32) := hk32_v12.trans hq32_v9
    refine lv_aload_n hx hb dX10_feed_45 rfl (lv_at hl 0 rfl) ?_
    refine va_get (D := (dC, dI)) (ci := 10) (v := .ref (x 0)) (C := RX10) (T := TX10) (N := 10) hx hb hts inB_10 hown hE.1 hP 0 rfl rfl 0 (by decide) (hts _ k_491) (fun _ h9 => h9) rfl dX10_feed_46 ?_
    refine lv_iload hx hb dX10_feed_49 (lv_at hl 5 rfl) ?_
    refine cbVv (n := 1) (rest := []) hx hb hml hown hts hE hP hD hS hA (qsX_X9_append_1 l dC dI cy x0 x p5 v12 f13 hIv12 (by show (v12 1).toInt ≤ 1596; omega)) k_530 k_531 k_532 k_102 k_533 (by decide +kernel) ⟨Nat.le_of_ble_eq_true rfl, Nat.le_of_ble_eq_true rfl⟩ 1 9 rfl rfl (rfl) hl.1 rfl (Nat.le_of_ble_eq_true rfl) dX10_feed_51 (fun u H locs hw hP hD hS => ?_)
    obtain ⟨v15, f16⟩ := u
    obtain ⟨hIv15, hk0_v15, hk9_v15, hk10_v15, hk31_v15, hk32_v15, pv17⟩ := hw
    have hP : va_P (dC, dI) vwCl (XW cy x0 x v15 f16) H := hP
    have hD : va_D A (XW cy x0 x v15 f16) := hD
    have b1_v15 : 0 ≤ (v15 1).toInt ∧ (v15 1).toInt ≤ 1600 := XI.b hIv15 1 (by decide)
    have pv17 : (v15 1).toInt = (v12 1).toInt + 4 := pv17
    have hq0_v15 : v15 0 = (v 0) := hk0_v15.trans hq0_v12
    have hq9_v15 : v15 9 = (v 9) := hk9_v15.trans hq9_v12
    have hq10_v15 : v15 10 = (v 10) := hk10_v15.trans hq10_v12
    have hq31_v15 : v15 31 = (v 31) := hk31_v15.trans hq31_v12
    have hq32_v15 : v15 32 = (v 32) := hk32_v15.trans hq32_v12
    refine lv_aload_n hx hb dX10_feed_54 rfl (lv_at hl 0 rfl) ?_
    refine va_get (D := (dC, dI)) (ci := 10) (v := .ref (x 0)) (C := RX10) (T := TX10) (N := 10) hx hb hts inB_10 hown hE.1 hP 0 rfl rfl 0 (by decide) (hts _ k_491) (fun _ h9 => h9) rfl dX10_feed_55 ?_
    refine va_getN (D := (dC, dI)) (ci := 9) (v := .int (v15 1)) (C := RX9) (T := TX9) (N := 6) hx hb hts inB_9 hown hE.1 hP 1 rfl rfl 1 (by decide) (va_Nw.use rfl (hE.2 _ k_138)) (fun _ h9 => h9) rfl dX10_feed_58 ?_
    have b1_v15 : 0 ≤ (v15 1).toInt ∧ (v15 1).toInt ≤ 1600 := XI.b hIv15 1 (by decide)
    exact ret (v15 1) (v15, f16) _ _ _ _ _ _ rfl ⟨hIv15, (hk0_v15.trans (hk0_v12.trans (hk0_v9.trans (hk0_v6.trans hk0_v3)))), (hk9_v15.trans (hk9_v12.trans (hk9_v9.trans (hk9_v6.trans hk9_v3)))), (hk10_v15.trans (hk10_v12.trans (hk10_v9.trans (hk10_v6.trans hk10_v3)))), (hk31_v15.trans (hk31_v12.trans (hk31_v9.trans (hk31_v6.trans hk31_v3)))), (hk32_v15.trans (hk32_v12.trans (hk32_v9.trans (hk32_v6.trans hk32_v3)))), (by show ((v15 1).toInt = -1 ∧ (v15 1).toInt = (v 1).toInt ∧ 1580 < (v 1).toInt) ∨ ((v15 1).toInt = (v15 1).toInt ∧ (v15 1).toInt = (v 1).toInt + 20 ∧ (v 1).toInt ≤ 1580); omega)⟩ hP hD hS dX10_feed_61 (Nat.le_refl _) (Nat.le_refl _)
  · skip
    subst g2
    refine lv_if_ne (tgt := 12) hx hb dX10_feed_7 (by decide) (fun c0 => absurd (by decide) c0) (fun _ => ?_)
    refine lv_iconst (v := (-1)) hx hb dX10_feed_10 (by decide) ?_
    exact ret (-1) (v, f) _ _ _ _ _ _ rfl ⟨hIv, rfl, rfl, rfl, rfl, rfl, (by have q0 : ((-1) : Int32).toInt = -1 := (by decide); show (((-1) : Int32).toInt = -1 ∧ (v 1).toInt = (v 1).toInt ∧ 1580 < (v 1).toInt) ∨ (((-1) : Int32).toInt = (v 1).toInt ∧ (v 1).toInt = (v 1).toInt + 20 ∧ (v 1).toInt ≤ 1580); omega)⟩ hP hD hS dX10_feed_11 (Nat.le_refl _) (Nat.le_refl _)
set_option maxHeartbeats 4000000 in
set_option maxRecDepth 100000 in
theorem qsY_X11_feed_1 (l : Launch) (dC : Nat → ClassId) (dI : Nat → Nat → Nat) (cy : Nat → ClassId) (y0 : Nat) (r : Nat → Nat) (p1 : Int32) (p2 : Int32) (p3 : Int32) (p4 : Int32) (p5 : Int32) (v : Nat → Int32) (f : Nat → Nat → Int32) (w : Int64) (g : Nat → Int64) (hIv : YI v) (hCf : YC f) (hRf : progOK (f 4) (f 5) (v 9).toInt.toNat)  : ctI l (dC, dI) cy yX11_feed cX11_feed 6 .int 2 82 0 0 ((Nat → Int32) × (Nat → Nat → Int32) × (Int64) × (Nat → Int64)) [.ref y0, .int p1, .int p2, .int p3, .int p4, .int p5] (YW cy y0 r v f w g) (fun r u => YI u.1 ∧ YC u.2.1 ∧ progOK (u.2.1 4) (u.2.1 5) (u.1 9).toInt.toNat ∧ u.1 1 = v 1 ∧ u.1 3 = v 3 ∧ u.1 4 = v 4 ∧ u.1 5 = v 5 ∧ u.1 8 = v 8 ∧ u.1 9 = v 9 ∧ u.1 10 = v 10 ∧ u.1 13 = v 13 ∧ u.1 14 = v 14 ∧ u.1 15 = v 15 ∧ u.1 17 = v 17 ∧ u.1 18 = v 18 ∧ u.1 24 = v 24 ∧ u.1 25 = v 25 ∧ u.1 35 = v 35 ∧ u.1 36 = v 36 ∧ u.1 38 = v 38 ∧ u.1 39 = v 39 ∧ ((r.toInt = -1 ∧ (u.1 0).toInt = (v 0).toInt ∧ 1580 < (v 0).toInt) ∨ (r.toInt = (u.1 0).toInt ∧ (u.1 0).toInt = (v 0).toInt + 20 ∧ (v 0).toInt ≤ 1580))) (fun u => YW cy y0 r u.1 u.2.1 u.2.2.1 u.2.2.2) := by
  refine ctI_of (by decide) (Nat.le_of_ble_eq_true rfl) (fun p e s m below meth c A ls Q hx hb hml hts hown hE hP hD hA hl ret => ?_)
  have hUv : (v 35).toInt + (v 36).toInt ≤ 40 := hIv.2
  have hown : s.vm.findClass RX11 = some m.cls := hown
  have hS : va_S A s.heap s.heap [] := va_S.rf
  have hl : lv_has ls 6 [(0, .ref y0), (1, .int p1), (2, .int p2), (3, .int p3), (4, .int p4), (5, .int p5)] := hl
  refine lv_aload_n hx hb dX11_feed_0 rfl (lv_at hl 0 rfl) ?_
  refine va_get (D := (dC, dI)) (ci := 11) (v := .int (v 0)) (C := RX11) (T := TX11) (N := 79) hx hb hts inB_11 hown hE.1 hP 0 rfl rfl 1 (by decide) (hts _ k_1321) (fun _ h9 => h9) rfl dX11_feed_1 ?_
  have b0_v : 0 ≤ (v 0).toInt ∧ (v 0).toInt ≤ 1600 := YIb.b hIv.1 0 (by decide)
  refine lv_bipush (v := 20) hx hb dX11_feed_4 (by decide) ?_
  refine lv_iadd hx hb dX11_feed_6 ?_
  refine lv_topi (fun t1 et1 => ?_)
  have rg2 := fb_rng (v 0)
  have zt1 : t1.toInt = (v 0).toInt + 20 := by rw [et1]; exact add_i rfl (by decide) (by omega) (by omega)
  refine lv_sipush (v := 1600) hx hb dX11_feed_7 (by decide) ?_
  refine lv_icmp_le (tgt := 15) hx hb dX11_feed_10 (by decide) (fun c3 => ?_) (fun c3 => ?_)
  · skip
    have zc3 : t1.toInt ≤ 1600 := by rw [fa_le, show (1600 : Int32).toInt = 1600 from by decide] at c3; exact c3
    refine lv_aload_n hx hb dX11_feed_15 rfl (lv_at hl 0 rfl) ?_
    refine lv_iload_n hx hb dX11_feed_16 rfl (lv_at hl 1 rfl) ?_
    refine cbVv (n := 1) (rest := []) hx hb hml hown hts hE hP hD hS hA (sY_X11_four_1 l dC dI cy y0 r p1 v f w g hIv hCf hRf (by show (v 0).toInt ≤ 1596; omega)) k_1563 k_1565 k_40 k_114 k_1566 (by decide +kernel) ⟨Nat.le_of_ble_eq_true rfl, Nat.le_of_ble_eq_true rfl⟩ 0 11 rfl rfl (rfl) hl.1 rfl (Nat.le_of_ble_eq_true rfl) dX11_feed_17 (fun u H locs hw hP hD hS => ?_)
    obtain ⟨v4, f5, w6, g7⟩ := u
    obtain ⟨hIv4, hCf5, hRf5, hk1_v4, hk3_v4, hk4_v4, hk5_v4, hk8_v4, hk9_v4, hk10_v4, hk13_v4, hk14_v4, hk15_v4, hk17_v4, hk18_v4, hk24_v4, hk25_v4, hk35_v4, hk36_v4, hk38_v4, hk39_v4, pv8⟩ := hw
    have hP : va_P (dC, dI) vwCl (YW cy y0 r v4 f5 w6 g7) H := hP
    have hD : va_D A (YW cy y0 r v4 f5 w6 g7) := hD
    have b0_v4 : 0 ≤ (v4 0).toInt ∧ (v4 0).toInt ≤ 1600 := YIb.b hIv4.1 0 (by decide)
    have pv8 : (v4 0).toInt = (v 0).toInt + 4 := pv8
    have hUv4 : (v4 35).toInt + (v4 36).toInt ≤ 40 := hIv4.2
    have hq1_v4 : v4 1 = (v 1) := hk1_v4
    have hq3_v4 : v4 3 = (v 3) := hk3_v4
    have zq3_v4 := congrArg Int32.toInt hq3_v4
    have hq4_v4 : v4 4 = (v 4) := hk4_v4
    have zq4_v4 := congrArg Int32.toInt hq4_v4
    have hq5_v4 : v4 5 = (v 5) := hk5_v4
    have zq5_v4 := congrArg Int32.toInt hq5_v4
    have hq8_v4 : v4 8 = (v 8) := hk8_v4
    have hq9_v4 : v4 9 = (v 9) := hk9_v4
    have zq9_v4 := congrArg Int32.toInt hq9_v4
    have hq10_v4 : v4 10 = (v 10) := hk10_v4
    have hq13_v4 : v4 13 = (v 13) := hk13_v4
    have hq14_v4 : v4 14 = (v 14) := hk14_v4
    have hq15_v4 : v4 15 = (v 15) := hk15_v4
    have hq17_v4 : v4 17 = (v 17) := hk17_v4
    have hq18_v4 : v4 18 = (v 18) := hk18_v4
    have hq24_v4 : v4 24 = (v 24) := hk24_v4
    have hq25_v4 : v4 25 = (v 25) := hk25_v4
    have hq35_v4 : v4 35 = (v 35) := hk35_v4
    have zq35_v4 := congrArg Int32.toInt hq35_v4
    have hq36_v4 : v4 36 = (v 36) := hk36_v4
    have zq36_v4 := congrArg Int32.toInt hq36_v4
    have hq38_v4 : v4 38 = (v 38) := hk38_v4
    have hq39_v4 : v4 39 = (v 39) := hk39_v4
    refine lv_aload_n hx hb dX11_feed_20 rfl (lv_at hl 0 rfl) ?_
    refine lv_iload_n hx hb dX11_feed_21 rfl (lv_at hl 2 rfl) ?_
    refine cbVv (n := 1) (rest := []) hx hb hml hown hts hE hP hD hS hA (sY_X11_four_1 l dC dI cy y0 r p2 v4 f5 w6 g7 hIv4 hCf5 hRf5 (by show (v4 0).toInt ≤ 1596; omega)) k_1563 k_1565 k_40 k_114 k_1566 (by decide +kernel) ⟨Nat.le_of_ble_eq_true rfl, Nat.le_of_ble_eq_true rfl⟩ 0 11 rfl rfl (rfl) hl.1 rfl (Nat.le_of_ble_eq_true rfl) dX11_feed_22 (fun u H locs hw hP hD hS => ?_)
    obtain ⟨v9, f10, w11, g12⟩ := u
    obtain ⟨hIv9, hCf10, hRf10, hk1_v9, hk3_v9, hk4_v9, hk5_v9, hk8_v9, hk9_v9, hk10_v9, hk13_v9, hk14_v9, hk15_v9, hk17_v9, hk18_v9, hk24_v9, hk25_v9, hk35_v9, hk36_v9, hk38_v9, hk39_v9, pv13⟩ := hw
    have hP : va_P (dC, dI) vwCl (YW cy y0 r v9 f10 w11 g12) H := hP
    have hD : va_D A (YW cy y0 r v9 f10 w11 g12) := hD
    have b0_v9 : 0 ≤ (v9 0).toInt ∧ (v9 0).toInt ≤ 1600 := YIb.b hIv9.1 0 (by decide)
    have pv13 : (v9 0).toInt = (v4 0).toInt + 4 := pv13
    have hUv9 : (v9 35).toInt + (v9 36).toInt ≤ 40 := hIv9.2
    have hq1_v9 : v9 1 = (v 1) := hk1_v9.trans hq1_v4
    have hq3_v9 : v9 3 = (v 3) := hk3_v9.trans hq3_v4
    have zq3_v9 := congrArg Int32.toInt hq3_v9
    have hq4_v9 : v9 4 = (v 4) := hk4_v9.trans hq4_v4
    have zq4_v9 := congrArg Int32.toInt hq4_v9
    have hq5_v9 : v9 5 = (v 5) := hk5_v9.trans hq5_v4
    have zq5_v9 := congrArg Int32.toInt hq5_v9
    have hq8_v9 : v9 8 = (v 8) := hk8_v9.trans hq8_v4
    have hq9_v9 : v9 9 = (v 9) := hk9_v9.trans hq9_v4
    have zq9_v9 := congrArg Int32.toInt hq9_v9
    have hq10_v9 : v9 10 = (v 10) := hk10_v9.trans hq10_v4
    have hq13_v9 : v9 13 = (v 13) := hk13_v9.trans hq13_v4
    have hq14_v9 : v9 14 = (v 14) := hk14_v9.trans hq14_v4
    have hq15_v9 : v9 15 = (v 15) := hk15_v9.trans hq15_v4
    have hq17_v9 : v9 17 = (v 17) := hk17_v9.trans hq17_v4
    have hq18_v9 : v9 18 = (v 18) := hk18_v9.trans hq18_v4
    have hq24_v9 : v9 24 = (v 24) := hk24_v9.trans hq24_v4
    have hq25_v9 : v9 25 = (v 25) := hk25_v9.trans hq25_v4
    have hq35_v9 : v9 35 = (v 35) := hk35_v9.trans hq35_v4
    have zq35_v9 := congrArg Int32.toInt hq35_v9
    have hq36_v9 : v9 36 = (v 36) := hk36_v9.trans hq36_v4
    have zq36_v9 := congrArg Int32.toInt hq36_v9
    have hq38_v9 : v9 38 = (v 38) := hk38_v9.trans hq38_v4
    have hq39_v9 : v9 39 = (v 39) := hk39_v9.trans hq39_v4
    refine lv_aload_n hx hb dX11_feed_25 rfl (lv_at hl 0 rfl) ?_
    refine lv_iload_n hx hb dX11_feed_26 rfl (lv_at hl 3 rfl) ?_
    refine cbVv (n := 1) (rest := []) hx hb hml hown hts hE hP hD hS hA (sY_X11_four_1 l dC dI cy y0 r p3 v9 f10 w11 g12 hIv9 hCf10 hRf10 (by show (v9 0).toInt ≤ 1596; omega)) k_1563 k_1565 k_40 k_114 k_1566 (by decide +kernel) ⟨Nat.le_of_ble_eq_true rfl, Nat.le_of_ble_eq_true rfl⟩ 0 11 rfl rfl (rfl) hl.1 rfl (Nat.le_of_ble_eq_true rfl) dX11_feed_27 (fun u H locs hw hP hD hS => ?_)
    obtain ⟨v14, f15, w16, g17⟩ := u
    obtain ⟨hIv14, hCf15, hRf15, hk1_v14, hk3_v14, hk4_v14, hk5_v14, hk8_v14, hk9_v14, hk10_v14, hk13_v14, hk14_v14, hk15_v14, hk17_v14, hk18_v14, hk24_v14, hk25_v14, hk35_v14, hk36_v14, hk38_v14, hk39_v14, pv18⟩ := hw
    have hP : va_P (dC, dI) vwCl (YW cy y0 r v14 f15 w16 g17) H := hP
    have hD : va_D A (YW cy y0 r v14 f15 w16 g17) := hD
    have b0_v14 : 0 ≤ (v14 0).toInt ∧ (v14 0).toInt ≤ 1600 := YIb.b hIv14.1 0 (by decide)
    have pv18 : (v14 0).toInt = (v9 0).toInt + 4 := pv18
    have hUv14 : (v14 35).toInt + (v14 36).toInt ≤ 40 := hIv14.2
    have hq1_v14 : v14 1 = (v 1) := hk1_v14.trans hq1_v9
    have hq3_v14 : v14 3 = (v 3) := hk3_v14.trans hq3_v9
    have zq3_v14 := congrArg Int32.toInt hq3_v14
    have hq4_v14 : v14 4 = (v 4) := hk4_v14.trans hq4_v9
    have zq4_v14 := congrArg Int32.toInt hq4_v14
    have hq5_v14 : v14 5 = (v 5) := hk5_v14.trans hq5_v9
    have zq5_v14 := congrArg Int32.toInt hq5_v14
    have hq8_v14 : v14 8 = (v 8) := hk8_v14.trans hq8_v9
    have hq9_v14 : v14 9 = (v 9) := hk9_v14.trans hq9_v9
    have zq9_v14 := congrArg Int32.toInt hq9_v14
    have hq10_v14 : v14 10 = (v 10) := hk10_v14.trans hq10_v9
    have hq13_v14 : v14 13 = (v 13) := hk13_v14.trans hq13_v9
    have hq14_v14 : v14 14 = (v 14) := hk14_v14.trans hq14_v9
    have hq15_v14 : v14 15 = (v 15) := hk15_v14.trans hq15_v9
    have hq17_v14 : v14 17 = (v 17) := hk17_v14.trans hq17_v9
    have hq18_v14 : v14 18 = (v 18) := hk18_v14.trans hq18_v9
    have hq24_v14 : v14 24 = (v 24) := hk24_v14.trans hq24_v9
    have hq25_v14 : v14 25 = (v 25) := hk25_v14.trans hq25_v9
    have hq35_v14 : v14 35 = (v 35) := hk35_v14.trans hq35_v9
    have zq35_v14 := congrArg Int32.toInt hq35_v14
    have hq36_v14 : v14 36 = (v 36) := hk36_v14.trans hq36_v9
    have zq36_v14 := congrArg Int32.toInt hq36_v14
    have hq38_v14 : v14 38 = (v 38) := hk38_v14.trans hq38_v9
    have hq39_v14 : v14 39 = (v 39) := hk39_v14.trans hq39_v9
    refine lv_aload_n hx hb dX11_feed_30 rfl (lv_at hl 0 rfl) ?_
    refine lv_iload hx hb dX11_feed_31 (lv_at hl 4 rfl) ?_
    refine cbVv (n := 1) (rest := []) hx hb hml hown hts hE hP hD hS hA (sY_X11_four_1 l dC dI cy y0 r p4 v14 f15 w16 g17 hIv14 hCf15 hRf15 (by show (v14 0).toInt ≤ 1596; omega)) k_1563 k_1565 k_40 k_114 k_1566 (by decide +kernel) ⟨Nat.le_of_ble_eq_true rfl, Nat.le_of_ble_eq_true rfl⟩ 0 11 rfl rfl (rfl) hl.1 rfl (Nat.le_of_ble_eq_true rfl) dX11_feed_33 (fun u H locs hw hP hD hS => ?_)
    obtain ⟨v19, f20, w21, g22⟩ := u
    obtain ⟨hIv19, hCf20, hRf20, hk1_v19, hk3_v19, hk4_v19, hk5_v19, hk8_v19, hk9_v19, hk10_v19, hk13_v19, hk14_v19, hk15_v19, hk17_v19, hk18_v19, hk24_v19, hk25_v19, hk35_v19, hk36_v19, hk38_v19, hk39_v19, pv23⟩ := hw
    have hP : va_P (dC, dI) vwCl (YW cy y0 r v19 f20 w21 g22) H := hP
    have hD : va_D A (YW cy y0 r v19 f20 w21 g22) := hD
    have b0_v19 : 0 ≤ (v19 0).toInt ∧ (v19 0).toInt ≤ 1600 := YIb.b hIv19.1 0 (by decide)
    have pv23 : (v19 0).toInt = (v14 0).toInt + 4 := pv23
    have hUv19 : (v19 35).toInt + (v19 36).toInt ≤ 40 := hIv19.2
    have hq1_v19 : v19 1 = (v 1) := hk1_v19.trans hq1_v14
    have hq3_v19 : v19 3 = (v 3) := hk3_v19.trans hq3_v14
    have zq3_v19 := congrArg Int32.toInt hq3_v19
    have hq4_v19 : v19 4 = (v 4) := hk4_v19.trans hq4_v14
    have zq4_v19 := congrArg Int32.toInt hq4_v19
    have hq5_v19 : v19 5 = (v 5) := hk5_v19.trans hq5_v14
    have zq5_v19 := congrArg Int32.toInt hq5_v19
    have hq8_v19 : v19 8 = (v 8) := hk8_v19.trans hq8_v14
    have hq9_v19 : v19 9 = (v 9) := hk9_v19.trans hq9_v14
    have zq9_v19 := congrArg Int32.toInt hq9_v19
    have hq10_v19 : v19 10 = (v 10) := hk10_v19.trans hq10_v14
    have hq13_v19 : v19 13 = (v 13) := hk13_v19.trans hq13_v14
    have hq14_v19 : v19 14 = (v 14) := hk14_v19.trans hq14_v14
    have hq15_v19 : v19 15 = (v 15) := hk15_v19.trans hq15_v14
    have hq17_v19 : v19 17 = (v 17) := hk17_v19.trans hq17_v14
    have hq18_v19 : v19 18 = (v 18) := hk18_v19.trans hq18_v14
    have hq24_v19 : v19 24 = (v 24) := hk24_v19.trans hq24_v14
    have hq25_v19 : v19 25 = (v 25) := hk25_v19.trans hq25_v14
    have hq35_v19 : v19 35 = (v 35) := hk35_v19.trans hq35_v14
    have zq35_v19 := congrArg Int32.toInt hq35_v19
    have hq36_v19 : v19 36 = (v 36) := hk36_v19.trans hq36_v14
    have zq36_v19 := congrArg Int32.toInt hq36_v19
    have hq38_v19 : v19 38 = (v 38) := hk38_v19.trans hq38_v14
    have hq39_v19 : v19 39 = (v 39) := hk39_v19.trans hq39_v14
    refine lv_aload_n hx hb dX11_feed_36 rfl (lv_at hl 0 rfl) ?_
    refine lv_iload hx hb dX11_feed_37 (lv_at hl 5 rfl) ?_
    refine cbVv (n := 1) (rest := []) hx hb hml hown hts hE hP hD hS hA (sY_X11_four_1 l dC dI cy y0 r p5 v19 f20 w21 g22 hIv19 hCf20 hRf20 (by show (v19 0).toInt ≤ 1596; omega)) k_1563 k_1565 k_40 k_114 k_1566 (by decide +kernel) ⟨Nat.le_of_ble_eq_true rfl, Nat.le_of_ble_eq_true rfl⟩ 0 11 rfl rfl (rfl) hl.1 rfl (Nat.le_of_ble_eq_true rfl) dX11_feed_39 (fun u H locs hw hP hD hS => ?_)
    obtain ⟨v24, f25, w26, g27⟩ := u
    obtain ⟨hIv24, hCf25, hRf25, hk1_v24, hk3_v24, hk4_v24, hk5_v24, hk8_v24, hk9_v24, hk10_v24, hk13_v24, hk14_v24, hk15_v24, hk17_v24, hk18_v24, hk24_v24, hk25_v24, hk35_v24, hk36_v24, hk38_v24, hk39_v24, pv28⟩ := hw
    have hP : va_P (dC, dI) vwCl (YW cy y0 r v24 f25 w26 g27) H := hP
    have hD : va_D A (YW cy y0 r v24 f25 w26 g27) := hD
    have b0_v24 : 0 ≤ (v24 0).toInt ∧ (v24 0).toInt ≤ 1600 := YIb.b hIv24.1 0 (by decide)
    have pv28 : (v24 0).toInt = (v19 0).toInt + 4 := pv28
    have hUv24 : (v24 35).toInt + (v24 36).toInt ≤ 40 := hIv24.2
    have hq1_v24 : v24 1 = (v 1) := hk1_v24.trans hq1_v19
    have hq3_v24 : v24 3 = (v 3) := hk3_v24.trans hq3_v19
    have zq3_v24 := congrArg Int32.toInt hq3_v24
    have hq4_v24 : v24 4 = (v 4) := hk4_v24.trans hq4_v19
    have zq4_v24 := congrArg Int32.toInt hq4_v24
    have hq5_v24 : v24 5 = (v 5) := hk5_v24.trans hq5_v19
    have zq5_v24 := congrArg Int32.toInt hq5_v24
    have hq8_v24 : v24 8 = (v 8) := hk8_v24.trans hq8_v19
    have hq9_v24 : v24 9 = (v 9) := hk9_v24.trans hq9_v19
    have zq9_v24 := congrArg Int32.toInt hq9_v24
    have hq10_v24 : v24 10 = (v 10) := hk10_v24.trans hq10_v19
    have hq13_v24 : v24 13 = (v 13) := hk13_v24.trans hq13_v19
    have hq14_v24 : v24 14 = (v 14) := hk14_v24.trans hq14_v19
    have hq15_v24 : v24 15 = (v 15) := hk15_v24.trans hq15_v19
    have hq17_v24 : v24 17 = (v 17) := hk17_v24.trans hq17_v19
    have hq18_v24 : v24 18 = (v 18) := hk18_v24.trans hq18_v19
    have hq24_v24 : v24 24 = (v 24) := hk24_v24.trans hq24_v19
    have hq25_v24 : v24 25 = (v 25) := hk25_v24.trans hq25_v19
    have hq35_v24 : v24 35 = (v 35) := hk35_v24.trans hq35_v19
    have zq35_v24 := congrArg Int32.toInt hq35_v24
    have hq36_v24 : v24 36 = (v 36) := hk36_v24.trans hq36_v19
    have zq36_v24 := congrArg Int32.toInt hq36_v24
    have hq38_v24 : v24 38 = (v 38) := hk38_v24.trans hq38_v19
    have hq39_v24 : v24 39 = (v 39) := hk39_v24.trans hq39_v19
    refine lv_aload_n hx hb dX11_feed_42 rfl (lv_at hl 0 rfl) ?_
    refine va_get (D := (dC, dI)) (ci := 11) (v := .int (v24 0)) (C := RX11) (T := TX11) (N := 79) hx hb hts inB_11 hown hE.1 hP 0 rfl rfl 1 (by decide) (hts _ k_1321) (fun _ h9 => h9) rfl dX11_feed_43 ?_
    have b0_v24 : 0 ≤ (v24 0).toInt ∧ (v24 0).toInt ≤ 1600 := YIb.b hIv24.1 0 (by decide)
    exact ret (v24 0) (v24, f25, w26, g27) _ _ _ _ _ _ rfl ⟨hIv24, hCf25, hRf25, (hk1_v24.trans (hk1_v19.trans (hk1_v14.trans (hk1_v9.trans hk1_v4)))), (hk3_v24.trans (hk3_v19.trans (hk3_v14.trans (hk3_v9.trans hk3_v4)))), (hk4_v24.trans (hk4_v19.trans (hk4_v14.trans (hk4_v9.trans hk4_v4)))), (hk5_v24.trans (hk5_v19.trans (hk5_v14.trans (hk5_v9.trans hk5_v4)))), (hk8_v24.trans (hk8_v19.trans (hk8_v14.trans (hk8_v9.trans hk8_v4)))), (hk9_v24.trans (hk9_v19.trans (hk9_v14.trans (hk9_v9.trans hk9_v4)))), (hk10_v24.trans (hk10_v19.trans (hk10_v14.trans (hk10_v9.trans hk10_v4)))), (hk13_v24.trans (hk13_v19.trans (hk13_v14.trans (hk13_v9.trans hk13_v4)))), (hk14_v24.trans (hk14_v19.trans (hk14_v14.trans (hk14_v9.trans hk14_v4)))), (hk15_v24.trans (hk15_v19.trans (hk15_v14.trans (hk15_v9.trans hk15_v4)))), (hk17_v24.trans (hk17_v19.trans (hk17_v14.trans (hk17_v9.trans hk17_v4)))), (hk18_v24.trans (hk18_v19.trans (hk18_v14.trans (hk18_v9.trans hk18_v4)))), (hk24_v24.trans (hk24_v19.trans (hk24_v14.trans (hk24_v9.trans hk24_v4)))), (hk25_v24.trans (hk25_v19.trans (hk25_v14.trans (hk25_v9.trans hk25_v4)))), (hk35_v24.trans (hk35_v19.trans (hk35_v14.trans (hk35_v9.trans hk35_v4)))), (hk36_v24.trans (hk36_v19.trans (hk36_v14.trans (hk36_v9.trans hk36_v4)))), (hk38_v24.trans (hk38_v19.trans (hk38_v14.trans (hk38_v9.trans hk38_v4)))), (hk39_v24.trans (hk39_v19.trans (hk39_v14.trans (hk39_v9.trans hk39_v4)))), (by show ((v24 0).toInt = -1 ∧ (v24 0).toInt = (v 0).toInt ∧ 1580 < (v 0).toInt) ∨ ((v24 0).toInt = (v24 0).toInt ∧ (v24 0).toInt = (v 0).toInt + 20 ∧ (v 0).toInt ≤ 1580); omega)⟩ hP hD hS dX11_feed_46 (Nat.le_refl _) (Nat.le_refl _)
  · skip
    have zc3 : ¬ (t1.toInt ≤ 1600) := by rw [fa_le, show (1600 : Int32).toInt = 1600 from by decide] at c3; exact c3
    refine lv_iconst (v := (-1)) hx hb dX11_feed_13 (by decide) ?_
    exact ret (-1) (v, f, w, g) _ _ _ _ _ _ rfl ⟨hIv, hCf, hRf, rfl, rfl, rfl, rfl, rfl, rfl, rfl, rfl, rfl, rfl, rfl, rfl, rfl, rfl, rfl, rfl, rfl, rfl, (by have q0 : ((-1) : Int32).toInt = -1 := (by decide); show (((-1) : Int32).toInt = -1 ∧ (v 0).toInt = (v 0).toInt ∧ 1580 < (v 0).toInt) ∨ (((-1) : Int32).toInt = (v 0).toInt ∧ (v 0).toInt = (v 0).toInt + 20 ∧ (v 0).toInt ≤ 1580); omega)⟩ hP hD hS dX11_feed_14 (Nat.le_refl _) (Nat.le_refl _)
set_option maxHeartbeats 4000000 in
set_option maxRecDepth 100000 in
theorem qsX_X10_end_1 (l : Launch) (dC : Nat → ClassId) (dI : Nat → Nat → Nat) (cy : Nat → ClassId) (x0 : Nat) (x : Nat → Nat) (p1 : Int32) (v : Nat → Int32) (f : Nat → Nat → Int32) (hIv : XI v)  : ctI l (dC, dI) cy yX10_end cX10_end 2 .int 1 60 0 0 ((Nat → Int32) × (Nat → Nat → Int32)) [.ref x0, .int p1] (XW cy x0 x v f) (fun r u => XI u.1 ∧ u.1 0 = v 0 ∧ u.1 9 = v 9 ∧ u.1 10 = v 10 ∧ u.1 31 = v 31 ∧ u.1 32 = v 32 ∧ ((r.toInt = -1 ∧ (u.1 1).toInt = (v 1).toInt ∧ (p1.toInt < 0 ∨ (v 1).toInt < p1.toInt)) ∨ (r.toInt = p1.toInt ∧ (u.1 1).toInt = p1.toInt ∧ 0 ≤ p1.toInt ∧ p1.toInt ≤ (v 1).toInt))) (fun u => XW cy x0 x u.1 u.2) := by
  refine ctI_of (by decide) (Nat.le_of_ble_eq_true rfl) (fun p e s m below meth c A ls Q hx hb hml hts hown hE hP hD hA hl ret => ?_)
  have hown : s.vm.findClass RX10 = some m.cls := hown
  have hS : va_S A s.heap s.heap [] := va_S.rf
  have hl : lv_has ls 2 [(0, .ref x0), (1, .int p1)] := hl
  refine lv_iload_n hx hb dX10_end_0 rfl (lv_at hl 1 rfl) ?_
  refine lv_if_lt (tgt := 15) hx hb dX10_end_1 (by decide) (fun c1 => ?_) (fun c1 => ?_)
  · skip
    have zc1 : p1.toInt < 0 := by rw [fa_lt, show (0 : Int32).toInt = 0 from by decide] at c1; exact c1
    refine lv_iconst (v := (-1)) hx hb dX10_end_15 (by decide) ?_
    exact ret (-1) (v, f) _ _ _ _ _ _ rfl ⟨hIv, rfl, rfl, rfl, rfl, rfl, (by have q0 : ((-1) : Int32).toInt = -1 := (by decide); show (((-1) : Int32).toInt = -1 ∧ (v 1).toInt = (v 1).toInt ∧ (p1.toInt < 0 ∨ (v 1).toInt < p1.toInt)) ∨ (((-1) : Int32).toInt = p1.toInt ∧ (v 1).toInt = p1.toInt ∧ 0 ≤ p1.toInt ∧ p1.toInt ≤ (v 1).toInt); omega)⟩ hP hD hS dX10_end_16 (Nat.le_refl _) (Nat.le_refl _)
  · skip
    have zc1 : ¬ (p1.toInt < 0) := by rw [fa_lt, show (0 : Int32).toInt = 0 from by decide] at c1; exact c1
    refine lv_iload_n hx hb dX10_end_4 rfl (lv_at hl 1 rfl) ?_
    refine lv_aload_n hx hb dX10_end_5 rfl (lv_at hl 0 rfl) ?_
    refine va_get (D := (dC, dI)) (ci := 10) (v := .ref (x 0)) (C := RX10) (T := TX10) (N := 10) hx hb hts inB_10 hown hE.1 hP 0 rfl rfl 0 (by decide) (hts _ k_491) (fun _ h9 => h9) rfl dX10_end_6 ?_
    refine va_getN (D := (dC, dI)) (ci := 9) (v := .int (v 1)) (C := RX9) (T := TX9) (N := 6) hx hb hts inB_9 hown hE.1 hP 1 rfl rfl 1 (by decide) (va_Nw.use rfl (hE.2 _ k_138)) (fun _ h9 => h9) rfl dX10_end_9 ?_
    have b1_v : 0 ≤ (v 1).toInt ∧ (v 1).toInt ≤ 1600 := XI.b hIv 1 (by decide)
    refine lv_icmp_le (tgt := 17) hx hb dX10_end_12 (by decide) (fun c2 => ?_) (fun c2 => ?_)
    · skip
      have zc2 : p1.toInt ≤ (v 1).toInt := by rw [fa_le] at c2; exact c2
      have rg3 := fb_rng p1
      have rg4 := fb_rng (v 1)
      refine lv_aload_n hx hb dX10_end_17 rfl (lv_at hl 0 rfl) ?_
      refine va_get (D := (dC, dI)) (ci := 10) (v := .ref (x 0)) (C := RX10) (T := TX10) (N := 10) hx hb hts inB_10 hown hE.1 hP 0 rfl rfl 0 (by decide) (hts _ k_491) (fun _ h9 => h9) rfl dX10_end_18 ?_
      refine lv_iload_n hx hb dX10_end_21 rfl (lv_at hl 1 rfl) ?_
      refine va_putN (D := (dC, dI)) (ci := 9) (v := .int p1) (ty := tyX9 1) (C := RX9) (T := TX9) (N := 6) hx hb hts inB_9 tyX9 tyX9_ok nmX9 hown hE.1 hP hD hS 1 rfl rfl 1 (by decide) (va_Nw.use rfl (hE.2 _ k_138)) (fun _ h9 => h9) rfl (tyX9_ok 1 (by decide)) rfl rfl (Nat.le_of_ble_eq_true rfl) dX10_end_22 (fun H locs hP hD hS => ?_)
      have hP : va_P (dC, dI) vwCl (XW cy x0 x (upd v 1 p1) f) H := hP
      have hD : va_D A (XW cy x0 x (upd v 1 p1) f) := hD
      refine lv_iload_n hx hb dX10_end_25 rfl (lv_at hl 1 rfl) ?_
      exact ret p1 ((upd v 1 p1), f) _ _ _ _ _ _ rfl ⟨(XI.upd (j := 1) (x := p1) hIv (show (0 : Int) ≤ p1.toInt by omega) (show p1.toInt ≤ (1600 : Int) by omega)), rfl, rfl, rfl, rfl, rfl, (by show (p1.toInt = -1 ∧ p1.toInt = (v 1).toInt ∧ (p1.toInt < 0 ∨ (v 1).toInt < p1.toInt)) ∨ (p1.toInt = p1.toInt ∧ p1.toInt = p1.toInt ∧ 0 ≤ p1.toInt ∧ p1.toInt ≤ (v 1).toInt); omega)⟩ hP hD hS dX10_end_26 (Nat.le_refl _) (Nat.le_refl _)
    · skip
      have zc2 : ¬ (p1.toInt ≤ (v 1).toInt) := by rw [fa_le] at c2; exact c2
      have rg5 := fb_rng p1
      have rg6 := fb_rng (v 1)
      refine lv_iconst (v := (-1)) hx hb dX10_end_15 (by decide) ?_
      exact ret (-1) (v, f) _ _ _ _ _ _ rfl ⟨hIv, rfl, rfl, rfl, rfl, rfl, (by have q0 : ((-1) : Int32).toInt = -1 := (by decide); show (((-1) : Int32).toInt = -1 ∧ (v 1).toInt = (v 1).toInt ∧ (p1.toInt < 0 ∨ (v 1).toInt < p1.toInt)) ∨ (((-1) : Int32).toInt = p1.toInt ∧ (v 1).toInt = p1.toInt ∧ 0 ≤ p1.toInt ∧ p1.toInt ≤ (v 1).toInt); omega)⟩ hP hD hS dX10_end_16 (Nat.le_refl _) (Nat.le_refl _)
set_option maxHeartbeats 4000000 in
set_option maxRecDepth 100000 in
theorem qsY_X11_end_1 (l : Launch) (dC : Nat → ClassId) (dI : Nat → Nat → Nat) (cy : Nat → ClassId) (y0 : Nat) (r : Nat → Nat) (p1 : Int32) (v : Nat → Int32) (f : Nat → Nat → Int32) (w : Int64) (g : Nat → Int64) (hIv : YI v) (hCf : YC f) (hRf : progOK (f 4) (f 5) (v 9).toInt.toNat)  : ctI l (dC, dI) cy yX11_end cX11_end 2 .int 1 60 0 0 ((Nat → Int32) × (Nat → Nat → Int32) × (Int64) × (Nat → Int64)) [.ref y0, .int p1] (YW cy y0 r v f w g) (fun r u => YI u.1 ∧ YC u.2.1 ∧ progOK (u.2.1 4) (u.2.1 5) (u.1 9).toInt.toNat ∧ u.1 1 = v 1 ∧ u.1 3 = v 3 ∧ u.1 4 = v 4 ∧ u.1 5 = v 5 ∧ u.1 8 = v 8 ∧ u.1 9 = v 9 ∧ u.1 10 = v 10 ∧ u.1 13 = v 13 ∧ u.1 14 = v 14 ∧ u.1 15 = v 15 ∧ u.1 17 = v 17 ∧ u.1 18 = v 18 ∧ u.1 24 = v 24 ∧ u.1 25 = v 25 ∧ u.1 35 = v 35 ∧ u.1 36 = v 36 ∧ u.1 38 = v 38 ∧ u.1 39 = v 39 ∧ ((r.toInt = -1 ∧ (u.1 0).toInt = (v 0).toInt ∧ (p1.toInt < 0 ∨ (v 0).toInt < p1.toInt)) ∨ (r.toInt = p1.toInt ∧ (u.1 0).toInt = p1.toInt ∧ 0 ≤ p1.toInt ∧ p1.toInt ≤ (v 0).toInt))) (fun u => YW cy y0 r u.1 u.2.1 u.2.2.1 u.2.2.2) := by
  refine ctI_of (by decide) (Nat.le_of_ble_eq_true rfl) (fun p e s m below meth c A ls Q hx hb hml hts hown hE hP hD hA hl ret => ?_)
  have hUv : (v 35).toInt + (v 36).toInt ≤ 40 := hIv.2
  have hown : s.vm.findClass RX11 = some m.cls := hown
  have hS : va_S A s.heap s.heap [] := va_S.rf
  have hl : lv_has ls 2 [(0, .ref y0), (1, .int p1)] := hl
  refine lv_iload_n hx hb dX11_end_0 rfl (lv_at hl 1 rfl) ?_
  refine lv_if_lt (tgt := 12) hx hb dX11_end_1 (by decide) (fun c1 => ?_) (fun c1 => ?_)
  · skip
    have zc1 : p1.toInt < 0 := by rw [fa_lt, show (0 : Int32).toInt = 0 from by decide] at c1; exact c1
    refine lv_iconst (v := (-1)) hx hb dX11_end_12 (by decide) ?_
    exact ret (-1) (v, f, w, g) _ _ _ _ _ _ rfl ⟨hIv, hCf, hRf, rfl, rfl, rfl, rfl, rfl, rfl, rfl, rfl, rfl, rfl, rfl, rfl, rfl, rfl, rfl, rfl, rfl, rfl, (by have q0 : ((-1) : Int32).toInt = -1 := (by decide); show (((-1) : Int32).toInt = -1 ∧ (v 0).toInt = (v 0).toInt ∧ (p1.toInt < 0 ∨ (v 0).toInt < p1.toInt)) ∨ (((-1) : Int32).toInt = p1.toInt ∧ (v 0).toInt = p1.toInt ∧ 0 ≤ p1.toInt ∧ p1.toInt ≤ (v 0).toInt); omega)⟩ hP hD hS dX11_end_13 (Nat.le_refl _) (Nat.le_refl _)
  · skip
    have zc1 : ¬ (p1.toInt < 0) := by rw [fa_lt, show (0 : Int32).toInt = 0 from by decide] at c1; exact c1
    refine lv_iload_n hx hb dX11_end_4 rfl (lv_at hl 1 rfl) ?_
    refine lv_aload_n hx hb dX11_end_5 rfl (lv_at hl 0 rfl) ?_
    refine va_get (D := (dC, dI)) (ci := 11) (v := .int (v 0)) (C := RX11) (T := TX11) (N := 79) hx hb hts inB_11 hown hE.1 hP 0 rfl rfl 1 (by decide) (hts _ k_1321) (fun _ h9 => h9) rfl dX11_end_6 ?_
    have b0_v : 0 ≤ (v 0).toInt ∧ (v 0).toInt ≤ 1600 := YIb.b hIv.1 0 (by decide)
    refine lv_icmp_le (tgt := 14) hx hb dX11_end_9 (by decide) (fun c2 => ?_) (fun c2 => ?_)
    · skip
      have zc2 : p1.toInt ≤ (v 0).toInt := by rw [fa_le] at c2; exact c2
      have rg3 := fb_rng p1
      have rg4 := fb_rng (v 0)
      refine lv_aload_n hx hb dX11_end_14 rfl (lv_at hl 0 rfl) ?_
      refine lv_iload_n hx hb dX11_end_15 rfl (lv_at hl 1 rfl) ?_
      refine va_put (D := (dC, dI)) (ci := 11) (v := .int p1) (ty := tyX11 1) (C := RX11) (T := TX11) (N := 79) hx hb hts inB_11 tyX11 tyX11_ok nmX11 hown hE.1 hP hD hS 0 rfl rfl 1 (by decide) (hts _ k_1321) (fun _ h9 => h9) rfl (tyX11_ok 1 (by decide)) rfl rfl (Nat.le_of_ble_eq_true rfl) dX11_end_16 (fun H locs hP hD hS => ?_)
      have hP : va_P (dC, dI) vwCl (YW cy y0 r (upd v 0 p1) f w g) H := hP
      have hD : va_D A (YW cy y0 r (upd v 0 p1) f w g) := hD
      refine lv_iload_n hx hb dX11_end_19 rfl (lv_at hl 1 rfl) ?_
      exact ret p1 ((upd v 0 p1), f, w, g) _ _ _ _ _ _ rfl ⟨⟨(YIb.upd (j := 0) (x := p1) hIv.1 (show (0 : Int) ≤ p1.toInt by omega) (show p1.toInt ≤ (1600 : Int) by omega)), hIv.2⟩, hCf, hRf, rfl, rfl, rfl, rfl, rfl, rfl, rfl, rfl, rfl, rfl, rfl, rfl, rfl, rfl, rfl, rfl, rfl, rfl, (by show (p1.toInt = -1 ∧ p1.toInt = (v 0).toInt ∧ (p1.toInt < 0 ∨ (v 0).toInt < p1.toInt)) ∨ (p1.toInt = p1.toInt ∧ p1.toInt = p1.toInt ∧ 0 ≤ p1.toInt ∧ p1.toInt ≤ (v 0).toInt); omega)⟩ hP hD hS dX11_end_20 (Nat.le_refl _) (Nat.le_refl _)
    · skip
      have zc2 : ¬ (p1.toInt ≤ (v 0).toInt) := by rw [fa_le] at c2; exact c2
      have rg5 := fb_rng p1
      have rg6 := fb_rng (v 0)
      refine lv_iconst (v := (-1)) hx hb dX11_end_12 (by decide) ?_
      exact ret (-1) (v, f, w, g) _ _ _ _ _ _ rfl ⟨hIv, hCf, hRf, rfl, rfl, rfl, rfl, rfl, rfl, rfl, rfl, rfl, rfl, rfl, rfl, rfl, rfl, rfl, rfl, rfl, rfl, (by have q0 : ((-1) : Int32).toInt = -1 := (by decide); show (((-1) : Int32).toInt = -1 ∧ (v 0).toInt = (v 0).toInt ∧ (p1.toInt < 0 ∨ (v 0).toInt < p1.toInt)) ∨ (((-1) : Int32).toInt = p1.toInt ∧ (v 0).toInt = p1.toInt ∧ 0 ≤ p1.toInt ∧ p1.toInt ≤ (v 0).toInt); omega)⟩ hP hD hS dX11_end_13 (Nat.le_refl _) (Nat.le_refl _)
set_option maxRecDepth 100000 in
theorem lx1 (cy : Nat → ClassId) (x0 y0 : Nat) (x r : Nat → Nat) (v : Nat → Int32) (f : Nat → Nat → Int32) (v1 : Nat → Int32) (f1 : Nat → Nat → Int32) (w1 : Int64) (g1 : Nat → Int64) : ([0, 1, 2, 3, 4, 5, 6, 7, 8, 9, 10, 11, 12, 13, 14, 15, 16, 17, 18, 19, 20, 21, 22, 23, 24, 25, 26, 27, 28, 29, 30, 31, 32, 33, 34, 35, 36, 37, 38, 39, 40, 41] : List Nat).filterMap (fun i => ((XW cy x0 x v f) ++ (YW cy y0 r v1 f1 w1 g1))[i]?) = (XW cy x0 x v f) := rfl
set_option maxRecDepth 100000 in
theorem lx2 (cy : Nat → ClassId) (x0 y0 : Nat) (x r : Nat → Nat) (v : Nat → Int32) (f : Nat → Nat → Int32) (v1 : Nat → Int32) (f1 : Nat → Nat → Int32) (w1 : Int64) (g1 : Nat → Int64) : ([0, 1, 2, 3, 4, 5, 6, 7, 8, 9, 10, 11, 12, 13, 14, 15, 16, 17, 18, 19, 20, 21, 22, 23, 24, 25, 26, 27, 28, 29, 30, 31, 32, 33, 34, 35, 36, 37, 38, 39, 40, 41] : List Nat).map (fun i => ((XW cy x0 x v f) ++ (YW cy y0 r v1 f1 w1 g1))[i]?) = (XW cy x0 x v f).map some := rfl
set_option maxRecDepth 100000 in
theorem lx3 (cy : Nat → ClassId) (x0 y0 : Nat) (x r : Nat → Nat) (v : Nat → Int32) (f : Nat → Nat → Int32) (v1 : Nat → Int32) (f1 : Nat → Nat → Int32) (w1 : Int64) (g1 : Nat → Int64) : ([42, 43, 44, 45, 46, 47, 48, 49, 50, 51, 52, 53, 54, 55, 56, 57, 58, 59, 60, 61, 62, 63, 64, 65, 66, 67, 68, 69, 70, 71, 72, 73, 74, 75, 76, 77, 78, 79, 80] : List Nat).map (fun i => ((XW cy x0 x v f) ++ (YW cy y0 r v1 f1 w1 g1))[i]?) = (YW cy y0 r v1 f1 w1 g1).map some := rfl
set_option maxRecDepth 100000 in
theorem lx4 : va_nd [0, 1, 2, 3, 4, 5, 6, 7, 8, 9, 10, 11, 12, 13, 14, 15, 16, 17, 18, 19, 20, 21, 22, 23, 24, 25, 26, 27, 28, 29, 30, 31, 32, 33, 34, 35, 36, 37, 38, 39, 40, 41] = true := by decide
set_option maxRecDepth 100000 in
theorem lx5 : va_nd [42, 43, 44, 45, 46, 47, 48, 49, 50, 51, 52, 53, 54, 55, 56, 57, 58, 59, 60, 61, 62, 63, 64, 65, 66, 67, 68, 69, 70, 71, 72, 73, 74, 75, 76, 77, 78, 79, 80] = true := by decide
set_option maxRecDepth 100000 in
theorem lx6 : ∀ i ∈ ([42, 43, 44, 45, 46, 47, 48, 49, 50, 51, 52, 53, 54, 55, 56, 57, 58, 59, 60, 61, 62, 63, 64, 65, 66, 67, 68, 69, 70, 71, 72, 73, 74, 75, 76, 77, 78, 79, 80] : List Nat), i ∉ ([0, 1, 2, 3, 4, 5, 6, 7, 8, 9, 10, 11, 12, 13, 14, 15, 16, 17, 18, 19, 20, 21, 22, 23, 24, 25, 26, 27, 28, 29, 30, 31, 32, 33, 34, 35, 36, 37, 38, 39, 40, 41] : List Nat) := by decide
set_option maxRecDepth 100000 in
theorem ly1 (cy : Nat → ClassId) (x0 y0 : Nat) (x r : Nat → Nat) (v : Nat → Int32) (f : Nat → Nat → Int32) (v1 : Nat → Int32) (f1 : Nat → Nat → Int32) (w1 : Int64) (g1 : Nat → Int64) : ([0, 1, 2, 3, 4, 5, 6, 7, 8, 9, 10, 11, 12, 13, 14, 15, 16, 17, 18, 19, 20, 21, 22, 23, 24, 25, 26, 27, 28, 29, 30, 31, 32, 33, 34, 35, 36, 37, 38] : List Nat).filterMap (fun i => ((YW cy y0 r v1 f1 w1 g1) ++ (XW cy x0 x v f))[i]?) = (YW cy y0 r v1 f1 w1 g1) := rfl
set_option maxRecDepth 100000 in
theorem ly2 (cy : Nat → ClassId) (x0 y0 : Nat) (x r : Nat → Nat) (v : Nat → Int32) (f : Nat → Nat → Int32) (v1 : Nat → Int32) (f1 : Nat → Nat → Int32) (w1 : Int64) (g1 : Nat → Int64) : ([0, 1, 2, 3, 4, 5, 6, 7, 8, 9, 10, 11, 12, 13, 14, 15, 16, 17, 18, 19, 20, 21, 22, 23, 24, 25, 26, 27, 28, 29, 30, 31, 32, 33, 34, 35, 36, 37, 38] : List Nat).map (fun i => ((YW cy y0 r v1 f1 w1 g1) ++ (XW cy x0 x v f))[i]?) = (YW cy y0 r v1 f1 w1 g1).map some := rfl
set_option maxRecDepth 100000 in
theorem ly3 (cy : Nat → ClassId) (x0 y0 : Nat) (x r : Nat → Nat) (v : Nat → Int32) (f : Nat → Nat → Int32) (v1 : Nat → Int32) (f1 : Nat → Nat → Int32) (w1 : Int64) (g1 : Nat → Int64) : ([39, 40, 41, 42, 43, 44, 45, 46, 47, 48, 49, 50, 51, 52, 53, 54, 55, 56, 57, 58, 59, 60, 61, 62, 63, 64, 65, 66, 67, 68, 69, 70, 71, 72, 73, 74, 75, 76, 77, 78, 79, 80] : List Nat).map (fun i => ((YW cy y0 r v1 f1 w1 g1) ++ (XW cy x0 x v f))[i]?) = (XW cy x0 x v f).map some := rfl
set_option maxRecDepth 100000 in
theorem ly4 : va_nd [0, 1, 2, 3, 4, 5, 6, 7, 8, 9, 10, 11, 12, 13, 14, 15, 16, 17, 18, 19, 20, 21, 22, 23, 24, 25, 26, 27, 28, 29, 30, 31, 32, 33, 34, 35, 36, 37, 38] = true := by decide
set_option maxRecDepth 100000 in
theorem ly5 : va_nd [39, 40, 41, 42, 43, 44, 45, 46, 47, 48, 49, 50, 51, 52, 53, 54, 55, 56, 57, 58, 59, 60, 61, 62, 63, 64, 65, 66, 67, 68, 69, 70, 71, 72, 73, 74, 75, 76, 77, 78, 79, 80] = true := by decide
set_option maxRecDepth 100000 in
theorem ly6 : ∀ i ∈ ([39, 40, 41, 42, 43, 44, 45, 46, 47, 48, 49, 50, 51, 52, 53, 54, 55, 56, 57, 58, 59, 60, 61, 62, 63, 64, 65, 66, 67, 68, 69, 70, 71, 72, 73, 74, 75, 76, 77, 78, 79, 80] : List Nat), i ∉ ([0, 1, 2, 3, 4, 5, 6, 7, 8, 9, 10, 11, 12, 13, 14, 15, 16, 17, 18, 19, 20, 21, 22, 23, 24, 25, 26, 27, 28, 29, 30, 31, 32, 33, 34, 35, 36, 37, 38] : List Nat) := by decide
