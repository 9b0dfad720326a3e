section
variable {p : Program} {l : Launch} {e : Env} {R : Room} {s : State} {m : MethodId} {args : Array Value} {below : List Frame} {meth : Method} {c : Code} {H : Heap} {locs : List Loc} {cells slots : Nat} {Q : State → Prop} {pc : Nat} {ls : Array Slot} {rest st0 : List Value} {cc : ByteArray} {D : va_G} {cy : Nat → ClassId} {A : Nat → Prop} {ws wi wr : va_W} {mc ms : Nat} {S : Type} {wo : S → va_W}
  {y : MethodName} {bytes : ByteArray} {maxL nL index n fr lo : Nat} {rt : FieldType} {As : List Value} {own C : String} {b : Nat}
set_option maxHeartbeats 4000000 in
theorem casVi {post : Int32 → S → Prop} {T : u_T} {N : Nat} {fs : List Value} (hx : p.tables.exec = Jvm.exec) (hb : c.code = cc) (hml : c.maxLocals = nL) (hown : s.vm.findClass own = some m.cls) (hts : ∀ w ∈ BIG, w.before args s = true) (hE : ENV D cy s) (hP : va_P D vwCl ws H) (hD : va_D A ws) (hS : va_S A s.heap H locs) (hA : ∀ q, s.heap.size ≤ q → A q)
    (hF : SRF D s) (hT : STR D A s s.heap) (hM : ctIS l D cy y bytes maxL rt fr lo mc ms S (.ref b :: As) wi post wo)
    (h1 : Cond.methodLink own index y ∈ BIG) (h2 : Cond.instanceMethod y ∈ BIG) (h3 : Cond.selects C y y ∈ BIG) (h4 : Cond.initialized C ∈ BIG) (h5 : Cond.code y bytes maxL (some rt) ∈ BIG)
    (hd : y.cls = C ∧ y.cls ≠ "java/lang/invoke/MethodHandle" ∧ y.cls ≠ "java/lang/invoke/VarHandle" ∧ (parseMethodDescriptor y.desc).map (fun d => d.parameters.length) = some n) (hR : fr + 1 ≤ R.frames ∧ 8 + (maxL + 11) + lo ≤ R.locals)
    (isC isR : List Nat) (hC1 : isC.filterMap (fun i => ws[i]?) = wi) (hC : isC.map (fun i => ws[i]?) = wi.map some) (hRR : isR.map (fun i => ws[i]?) = wr.map some) (hnC : va_nd isC = true) (hnR : va_nd isR = true) (hdis : ∀ i ∈ isR, i ∉ isC)
    (q0 ci : Nat) (hc : vwCl[ci]? = some (C, T, N)) (he : wi[q0]? = some (b, .inr (ci, fs))) (hn : As.length = n) (hz : ls.size = nL) (hst : st0 = As.reverse ++ .ref b :: rest) (hW : (rest.map fun v => v.category).sum ≤ 8) (hdg : decode cc pc = .ok (.invokevirtual index, 3)) (hcs : cells + mc ≤ R.cells ∧ slots + ms ≤ R.slots)
    (kk : ∀ (r : Int32) (u : S) (H1 : Heap) (locs1 : List Loc), post r u → va_P D vwCl (wr ++ wo u) H1 → va_D A (wr ++ wo u) → va_S A s.heap H1 locs1 → W p l e R s m args below meth c H1 locs1 (cells + mc) (slots + ms) Q (F0 m (pc + 3) ls (.int r :: rest))) : W p l e R s m args below meth c H locs cells slots Q (F0 m pc ls st0) := by
  have hPc := hP.sub (ws' := wi) isC hC1
  have hDc := hD.sub (ws' := wi) isC hnC hC
  have hFc := va_free (wc := wi) hD hS hA isC hC
  refine va_calli (va_runV (C := C) (As := As) (rest := rest) ⟨hx, hb, hml, hown, hts⟩ (hM H.size) (cwV n hts (goodV h1 h2 h3 h4 h5) rfl rfl rfl hd hR) ⟨fun a U g mk q => by obtain ⟨q0, q1, qP, qE, qD, qF, qT⟩ := q; exact ⟨q0, q1, qP, qE.same rfl, qD, qF.same rfl, qT.moved (Vm.Alike.refl _)⟩, va_recv hE.1 hPc hc he, fun U hU hW => ⟨rfl, by rw [hU], by rw [hU]; exact hPc, hE.warm hW, hDc.weaken (fun _ _ _ _ => trivial), hF.warm hW, hT.go hS hFc hU hW⟩⟩ rfl hn hz hst (lv_room hW) hdg hcs) hS (fun q _ h => hFc q h) hFc (fun r u t H1 locs1 ht hvm hw hB hz1 hk1 hS1 => ?_)
  obtain ⟨hP1, hD1⟩ := hB
  rw [ht] at hP1
  obtain ⟨hPj, hDj⟩ := va_join (wr := wr) (w1 := wo u) hP hD isC isR hC hRR hnR hdis hk1 hFc hP1 hD1
  exact kk r u H1 locs1 hw hPj hDj hS1
end
set_option maxHeartbeats 4000000 in
set_option maxRecDepth 100000 in
theorem qsX_X10_later_1 (l : Launch) (dC : Nat → ClassId) (dI : Nat → Nat → Nat) (cy : Nat → ClassId) (x0 : Nat) (x : Nat → Nat) (p1 : Int32) (v : Nat → Int32) (f : Nat → Nat → Int32) (hIv : XI v)  : ctI l (dC, dI) cy yX10_later cX10_later 2 .int 1 60 0 0 ((Nat → Int32) × (Nat → Nat → Int32)) [.ref x0, .int p1] (XW cy x0 x v f) (fun r u => XI u.1 ∧ u.1 1 = v 1 ∧ u.1 9 = v 9 ∧ u.1 10 = v 10 ∧ u.1 31 = v 31 ∧ u.1 32 = v 32 ∧ ((r.toInt = -1 ∧ (u.1 0).toInt = (v 0).toInt ∧ (p1.toInt < 0 ∨ 1000 < p1.toInt ∨ 100000 < (v 0).toInt + p1.toInt)) ∨ ((u.1 0).toInt = (v 0).toInt + p1.toInt ∧ r.toInt = (u.1 0).toInt ∧ 0 ≤ p1.toInt ∧ p1.toInt ≤ 1000 ∧ (v 0).toInt + p1.toInt ≤ 100000))) (fun u => XW cy x0 x u.1 u.2) := by
  refine ctI_of (by decide) (Nat.le_of_ble_eq_true rfl) (fun p e s m below meth c A ls Q hx hb hml hts hown hE hP hD hA hl ret => ?_)
  have hown : s.vm.findClass RX10 = some m.cls := hown
  have hS : va_S A s.heap s.heap [] := va_S.rf
  have hl : lv_has ls 2 [(0, .ref x0), (1, .int p1)] := hl
  refine lv_iload_n hx hb dX10_later_0 rfl (lv_at hl 1 rfl) ?_
  refine lv_if_lt (tgt := 23) hx hb dX10_later_1 (by decide) (fun c1 => ?_) (fun c1 => ?_)
  · skip
    have zc1 : p1.toInt < 0 := by rw [fa_lt, show (0 : Int32).toInt = 0 from by decide] at c1; exact c1
    refine lv_iconst (v := (-1)) hx hb dX10_later_23 (by decide) ?_
    exact ret (-1) (v, f) _ _ _ _ _ _ rfl ⟨hIv, rfl, rfl, rfl, rfl, rfl, (by have q0 : ((-1) : Int32).toInt = -1 := (by decide); show (((-1) : Int32).toInt = -1 ∧ (v 0).toInt = (v 0).toInt ∧ (p1.toInt < 0 ∨ 1000 < p1.toInt ∨ 100000 < (v 0).toInt + p1.toInt)) ∨ ((v 0).toInt = (v 0).toInt + p1.toInt ∧ ((-1) : Int32).toInt = (v 0).toInt ∧ 0 ≤ p1.toInt ∧ p1.toInt ≤ 1000 ∧ (v 0).toInt + p1.toInt ≤ 100000); omega)⟩ hP hD hS dX10_later_24 (Nat.le_refl _) (Nat.le_refl _)
  · skip
    have zc1 : ¬ (p1.toInt < 0) := by rw [fa_lt, show (0 : Int32).toInt = 0 from by decide] at c1; exact c1
    refine lv_iload_n hx hb dX10_later_4 rfl (lv_at hl 1 rfl) ?_
    refine lv_sipush (v := 1000) hx hb dX10_later_5 (by decide) ?_
    refine lv_icmp_gt (tgt := 23) hx hb dX10_later_8 (by decide) (fun c2 => ?_) (fun c2 => ?_)
    · skip
      have zc2 : 1000 < p1.toInt := by rw [fa_lt, show (1000 : Int32).toInt = 1000 from by decide] at c2; exact c2
      refine lv_iconst (v := (-1)) hx hb dX10_later_23 (by decide) ?_
      exact ret (-1) (v, f) _ _ _ _ _ _ rfl ⟨hIv, rfl, rfl, rfl, rfl, rfl, (by have q0 : ((-1) : Int32).toInt = -1 := (by decide); show (((-1) : Int32).toInt = -1 ∧ (v 0).toInt = (v 0).toInt ∧ (p1.toInt < 0 ∨ 1000 < p1.toInt ∨ 100000 < (v 0).toInt + p1.toInt)) ∨ ((v 0).toInt = (v 0).toInt + p1.toInt ∧ ((-1) : Int32).toInt = (v 0).toInt ∧ 0 ≤ p1.toInt ∧ p1.toInt ≤ 1000 ∧ (v 0).toInt + p1.toInt ≤ 100000); omega)⟩ hP hD hS dX10_later_24 (Nat.le_refl _) (Nat.le_refl _)
    · skip
      have zc2 : ¬ (1000 < p1.toInt) := by rw [fa_lt, show (1000 : Int32).toInt = 1000 from by decide] at c2; exact c2
      refine lv_aload_n hx hb dX10_later_11 rfl (lv_at hl 0 rfl) ?_
      refine va_get (D := (dC, dI)) (ci := 10) (v := .int (v 0)) (C := RX10) (T := TX10) (N := 10) hx hb hts inB_10 hown hE.1 hP 0 rfl rfl 9 (by decide) (hts _ k_500) (fun _ h9 => h9) rfl dX10_later_12 ?_
      have b0_v : 0 ≤ (v 0).toInt ∧ (v 0).toInt ≤ 100000 := XI.b hIv 0 (by decide)
      refine lv_iload_n hx hb dX10_later_15 rfl (lv_at hl 1 rfl) ?_
      refine lv_iadd hx hb dX10_later_16 ?_
      refine lv_topi (fun t3 et3 => ?_)
      have rg4 := fb_rng (v 0)
      have rg5 := fb_rng p1
      have zt3 : t3.toInt = (v 0).toInt + p1.toInt := by rw [et3]; exact add_i rfl rfl (by omega) (by omega)
      refine lv_ldcw (v := 100000) hx hb hown (hts _ k_1242) dX10_later_17 ?_
      refine lv_icmp_le (tgt := 25) hx hb dX10_later_20 (by decide) (fun c6 => ?_) (fun c6 => ?_)
      · skip
        have zc6 : t3.toInt ≤ 100000 := by rw [fa_le, show (100000 : Int32).toInt = 100000 from by decide] at c6; exact c6
        refine lv_aload_n hx hb dX10_later_25 rfl (lv_at hl 0 rfl) ?_
        refine lv_dup hx hb dX10_later_26 rfl ?_
        refine va_get (D := (dC, dI)) (ci := 10) (v := .int (v 0)) (C := RX10) (T := TX10) (N := 10) hx hb hts inB_10 hown hE.1 hP 0 rfl rfl 9 (by decide) (hts _ k_500) (fun _ h9 => h9) rfl dX10_later_27 ?_
        refine lv_iload_n hx hb dX10_later_30 rfl (lv_at hl 1 rfl) ?_
        refine lv_iadd hx hb dX10_later_31 ?_
        refine tI (y := t3) et3.symm ?_
        refine va_put (D := (dC, dI)) (ci := 10) (v := .int t3) (ty := tyX10 9) (C := RX10) (T := TX10) (N := 10) hx hb hts inB_10 tyX10 tyX10_ok nmX10 hown hE.1 hP hD hS 0 rfl rfl 9 (by decide) (hts _ k_500) (fun _ h9 => h9) rfl (tyX10_ok 9 (by decide)) rfl rfl (Nat.le_of_ble_eq_true rfl) dX10_later_32 (fun H locs hP hD hS => ?_)
        have hP : va_P (dC, dI) vwCl (XW cy x0 x (upd v 0 t3) f) H := hP
        have hD : va_D A (XW cy x0 x (upd v 0 t3) f) := hD
        refine lv_aload_n hx hb dX10_later_35 rfl (lv_at hl 0 rfl) ?_
        refine va_get (D := (dC, dI)) (ci := 10) (v := .int t3) (C := RX10) (T := TX10) (N := 10) hx hb hts inB_10 hown hE.1 hP 0 rfl rfl 9 (by decide) (hts _ k_500) (fun _ h9 => h9) rfl dX10_later_36 ?_
        exact ret t3 ((upd v 0 t3), f) _ _ _ _ _ _ rfl ⟨(XI.upd (j := 0) (x := t3) hIv (show (0 : Int) ≤ t3.toInt by omega) (show t3.toInt ≤ (100000 : Int) by omega)), rfl, rfl, rfl, rfl, rfl, (by show (t3.toInt = -1 ∧ t3.toInt = (v 0).toInt ∧ (p1.toInt < 0 ∨ 1000 < p1.toInt ∨ 100000 < (v 0).toInt + p1.toInt)) ∨ (t3.toInt = (v 0).toInt + p1.toInt ∧ t3.toInt = t3.toInt ∧ 0 ≤ p1.toInt ∧ p1.toInt ≤ 1000 ∧ (v 0).toInt + p1.toInt ≤ 100000); omega)⟩ hP hD hS dX10_later_39 (Nat.le_refl _) (Nat.le_refl _)
      · skip
        have zc6 : ¬ (t3.toInt ≤ 100000) := by rw [fa_le, show (100000 : Int32).toInt = 100000 from by decide] at c6; exact c6
        refine lv_iconst (v := (-1)) hx hb dX10_later_23 (by decide) ?_
        exact ret (-1) (v, f) _ _ _ _ _ _ rfl ⟨hIv, rfl, rfl, rfl, rfl, rfl, (by have q0 : ((-1) : Int32).toInt = -1 := (by decide); show (((-1) : Int32).toInt = -1 ∧ (v 0).toInt = (v 0).toInt ∧ (p1.toInt < 0 ∨ 1000 < p1.toInt ∨ 100000 < (v 0).toInt + p1.toInt)) ∨ ((v 0).toInt = (v 0).toInt + p1.toInt ∧ ((-1) : Int32).toInt = (v 0).toInt ∧ 0 ≤ p1.toInt ∧ p1.toInt ≤ 1000 ∧ (v 0).toInt + p1.toInt ≤ 100000); omega)⟩ hP hD hS dX10_later_24 (Nat.le_refl _) (Nat.le_refl _)
set_option maxHeartbeats 4000000 in
set_option maxRecDepth 100000 in
theorem qsY_X11_later_1 (l : Launch) (dC : Nat → ClassId) (dI : Nat → Nat → Nat) (cy : Nat → ClassId) (y0 : Nat) (r : Nat → Nat) (p1 : Int32) (v : Nat → Int32) (f : Nat → Nat → Int32) (w : Int64) (g : Nat → Int64) (hIv : YI v) (hCf : YC f) (hRf : progOK (f 4) (f 5) (v 9).toInt.toNat)  : ctI l (dC, dI) cy yX11_later cX11_later 2 .int 1 60 0 0 ((Nat → Int32) × (Nat → Nat → Int32) × (Int64) × (Nat → Int64)) [.ref y0, .int p1] (YW cy y0 r v f w g) (fun r u => YI u.1 ∧ YC u.2.1 ∧ progOK (u.2.1 4) (u.2.1 5) (u.1 9).toInt.toNat ∧ u.1 0 = v 0 ∧ u.1 1 = v 1 ∧ u.1 3 = v 3 ∧ u.1 4 = v 4 ∧ u.1 5 = v 5 ∧ u.1 8 = v 8 ∧ u.1 9 = v 9 ∧ u.1 10 = v 10 ∧ u.1 13 = v 13 ∧ u.1 14 = v 14 ∧ u.1 15 = v 15 ∧ u.1 17 = v 17 ∧ u.1 18 = v 18 ∧ u.1 24 = v 24 ∧ u.1 25 = v 25 ∧ u.1 35 = v 35 ∧ u.1 36 = v 36 ∧ u.1 38 = v 38 ∧ ((r.toInt = -1 ∧ (u.1 39).toInt = (v 39).toInt ∧ (p1.toInt < 0 ∨ 1000 < p1.toInt ∨ 100000 < (v 39).toInt + p1.toInt)) ∨ ((u.1 39).toInt = (v 39).toInt + p1.toInt ∧ r.toInt = (u.1 39).toInt ∧ 0 ≤ p1.toInt ∧ p1.toInt ≤ 1000 ∧ (v 39).toInt + p1.toInt ≤ 100000))) (fun u => YW cy y0 r u.1 u.2.1 u.2.2.1 u.2.2.2) := by
  refine ctI_of (by decide) (Nat.le_of_ble_eq_true rfl) (fun p e s m below meth c A ls Q hx hb hml hts hown hE hP hD hA hl ret => ?_)
  have hUv : (v 35).toInt + (v 36).toInt ≤ 40 := hIv.2
  have hown : s.vm.findClass RX11 = some m.cls := hown
  have hS : va_S A s.heap s.heap [] := va_S.rf
  have hl : lv_has ls 2 [(0, .ref y0), (1, .int p1)] := hl
  refine lv_iload_n hx hb dX11_later_0 rfl (lv_at hl 1 rfl) ?_
  refine lv_if_lt (tgt := 23) hx hb dX11_later_1 (by decide) (fun c1 => ?_) (fun c1 => ?_)
  · skip
    have zc1 : p1.toInt < 0 := by rw [fa_lt, show (0 : Int32).toInt = 0 from by decide] at c1; exact c1
    refine lv_iconst (v := (-1)) hx hb dX11_later_23 (by decide) ?_
    exact ret (-1) (v, f, w, g) _ _ _ _ _ _ rfl ⟨hIv, hCf, hRf, rfl, rfl, rfl, rfl, rfl, rfl, rfl, rfl, rfl, rfl, rfl, rfl, rfl, rfl, rfl, rfl, rfl, rfl, (by have q0 : ((-1) : Int32).toInt = -1 := (by decide); show (((-1) : Int32).toInt = -1 ∧ (v 39).toInt = (v 39).toInt ∧ (p1.toInt < 0 ∨ 1000 < p1.toInt ∨ 100000 < (v 39).toInt + p1.toInt)) ∨ ((v 39).toInt = (v 39).toInt + p1.toInt ∧ ((-1) : Int32).toInt = (v 39).toInt ∧ 0 ≤ p1.toInt ∧ p1.toInt ≤ 1000 ∧ (v 39).toInt + p1.toInt ≤ 100000); omega)⟩ hP hD hS dX11_later_24 (Nat.le_refl _) (Nat.le_refl _)
  · skip
    have zc1 : ¬ (p1.toInt < 0) := by rw [fa_lt, show (0 : Int32).toInt = 0 from by decide] at c1; exact c1
    refine lv_iload_n hx hb dX11_later_4 rfl (lv_at hl 1 rfl) ?_
    refine lv_sipush (v := 1000) hx hb dX11_later_5 (by decide) ?_
    refine lv_icmp_gt (tgt := 23) hx hb dX11_later_8 (by decide) (fun c2 => ?_) (fun c2 => ?_)
    · skip
      have zc2 : 1000 < p1.toInt := by rw [fa_lt, show (1000 : Int32).toInt = 1000 from by decide] at c2; exact c2
      refine lv_iconst (v := (-1)) hx hb dX11_later_23 (by decide) ?_
      exact ret (-1) (v, f, w, g) _ _ _ _ _ _ rfl ⟨hIv, hCf, hRf, rfl, rfl, rfl, rfl, rfl, rfl, rfl, rfl, rfl, rfl, rfl, rfl, rfl, rfl, rfl, rfl, rfl, rfl, (by have q0 : ((-1) : Int32).toInt = -1 := (by decide); show (((-1) : Int32).toInt = -1 ∧ (v 39).toInt = (v 39).toInt ∧ (p1.toInt < 0 ∨ 1000 < p1.toInt ∨ 100000 < (v 39).toInt + p1.toInt)) ∨ ((v 39).toInt = (v 39).toInt + p1.toInt ∧ ((-1) : Int32).toInt = (v 39).toInt ∧ 0 ≤ p1.toInt ∧ p1.toInt ≤ 1000 ∧ (v 39).toInt + p1.toInt ≤ 100000); omega)⟩ hP hD hS dX11_later_24 (Nat.le_refl _) (Nat.le_refl _)
    · skip
      have zc2 : ¬ (1000 < p1.toInt) := by rw [fa_lt, show (1000 : Int32).toInt = 1000 from by decide] at c2; exact c2
      refine lv_aload_n hx hb dX11_later_11 rfl (lv_at hl 0 rfl) ?_
      refine va_get (D := (dC, dI)) (ci := 11) (v := .int (v 39)) (C := RX11) (T := TX11) (N := 79) hx hb hts inB_11 hown hE.1 hP 0 rfl rfl 74 (by decide) (hts _ k_1394) (fun _ h9 => h9) rfl dX11_later_12 ?_
      have b39_v : 0 ≤ (v 39).toInt ∧ (v 39).toInt ≤ 100000 := YIb.b hIv.1 39 (by decide)
      refine lv_iload_n hx hb dX11_later_15 rfl (lv_at hl 1 rfl) ?_
      refine lv_iadd hx hb dX11_later_16 ?_
      refine lv_topi (fun t3 et3 => ?_)
      have rg4 := fb_rng (v 39)
      have rg5 := fb_rng p1
      have zt3 : t3.toInt = (v 39).toInt + p1.toInt := by rw [et3]; exact add_i rfl rfl (by omega) (by omega)
      refine lv_ldcw (v := 100000) hx hb hown (hts _ k_2019) dX11_later_17 ?_
      refine lv_icmp_le (tgt := 25) hx hb dX11_later_20 (by decide) (fun c6 => ?_) (fun c6 => ?_)
      · skip
        have zc6 : t3.toInt ≤ 100000 := by rw [fa_le, show (100000 : Int32).toInt = 100000 from by decide] at c6; exact c6
        refine lv_aload_n hx hb dX11_later_25 rfl (lv_at hl 0 rfl) ?_
        refine lv_dup hx hb dX11_later_26 rfl ?_
        refine va_get (D := (dC, dI)) (ci := 11) (v := .int (v 39)) (C := RX11) (T := TX11) (N := 79) hx hb hts inB_11 hown hE.1 hP 0 rfl rfl 74 (by decide) (hts _ k_1394) (fun _ h9 => h9) rfl dX11_later_27 ?_
        refine lv_iload_n hx hb dX11_later_30 rfl (lv_at hl 1 rfl) ?_
        refine lv_iadd hx hb dX11_later_31 ?_
        refine tI (y := t3) et3.symm ?_
        refine va_put (D := (dC, dI)) (ci := 11) (v := .int t3) (ty := tyX11 74) (C := RX11) (T := TX11) (N := 79) hx hb hts inB_11 tyX11 tyX11_ok nmX11 hown hE.1 hP hD hS 0 rfl rfl 74 (by decide) (hts _ k_1394) (fun _ h9 => h9) rfl (tyX11_ok 74 (by decide)) rfl rfl (Nat.le_of_ble_eq_true rfl) dX11_later_32 (fun H locs hP hD hS => ?_)
        have hP : va_P (dC, dI) vwCl (YW cy y0 r (upd v 39 t3) f w g) H := hP
        have hD : va_D A (YW cy y0 r (upd v 39 t3) f w g) := hD
        refine lv_aload_n hx hb dX11_later_35 rfl (lv_at hl 0 rfl) ?_
        refine va_get (D := (dC, dI)) (ci := 11) (v := .int t3) (C := RX11) (T := TX11) (N := 79) hx hb hts inB_11 hown hE.1 hP 0 rfl rfl 74 (by decide) (hts _ k_1394) (fun _ h9 => h9) rfl dX11_later_36 ?_
        exact ret t3 ((upd v 39 t3), f, w, g) _ _ _ _ _ _ rfl ⟨⟨(YIb.upd (j := 39) (x := t3) hIv.1 (show (0 : Int) ≤ t3.toInt by omega) (show t3.toInt ≤ (100000 : Int) by omega)), hIv.2⟩, hCf, hRf, rfl, rfl, rfl, rfl, rfl, rfl, rfl, rfl, rfl, rfl, rfl, rfl, rfl, rfl, rfl, rfl, rfl, rfl, (by show (t3.toInt = -1 ∧ t3.toInt = (v 39).toInt ∧ (p1.toInt < 0 ∨ 1000 < p1.toInt ∨ 100000 < (v 39).toInt + p1.toInt)) ∨ (t3.toInt = (v 39).toInt + p1.toInt ∧ t3.toInt = t3.toInt ∧ 0 ≤ p1.toInt ∧ p1.toInt ≤ 1000 ∧ (v 39).toInt + p1.toInt ≤ 100000); omega)⟩ hP hD hS dX11_later_39 (Nat.le_refl _) (Nat.le_refl _)
      · skip
        have zc6 : ¬ (t3.toInt ≤ 100000) := by rw [fa_le, show (100000 : Int32).toInt = 100000 from by decide] at c6; exact c6
        refine lv_iconst (v := (-1)) hx hb dX11_later_23 (by decide) ?_
        exact ret (-1) (v, f, w, g) _ _ _ _ _ _ rfl ⟨hIv, hCf, hRf, rfl, rfl, rfl, rfl, rfl, rfl, rfl, rfl, rfl, rfl, rfl, rfl, rfl, rfl, rfl, rfl, rfl, rfl, (by have q0 : ((-1) : Int32).toInt = -1 := (by decide); show (((-1) : Int32).toInt = -1 ∧ (v 39).toInt = (v 39).toInt ∧ (p1.toInt < 0 ∨ 1000 < p1.toInt ∨ 100000 < (v 39).toInt + p1.toInt)) ∨ ((v 39).toInt = (v 39).toInt + p1.toInt ∧ ((-1) : Int32).toInt = (v 39).toInt ∧ 0 ≤ p1.toInt ∧ p1.toInt ≤ 1000 ∧ (v 39).toInt + p1.toInt ≤ 100000); omega)⟩ hP hD hS dX11_later_24 (Nat.le_refl _) (Nat.le_refl _)
set_option maxRecDepth 100000 in
theorem lx1 (cy : Nat → ClassId) (x0 y0 : Nat) (x r : Nat → Nat) (v : Nat → Int32) (f : Nat → Nat → Int32) (v1 : Nat → Int32) (f1 : Nat → Nat → Int32) (w1 : Int64) (g1 : Nat → Int64) : ([0, 1, 2, 3, 4, 5, 6, 7, 8, 9, 10, 11, 12, 13, 14, 15, 16, 17, 18, 19, 20, 21, 22, 23, 24, 25, 26, 27, 28, 29, 30, 31, 32, 33, 34, 35, 36, 37, 38, 39, 40, 41] : List Nat).filterMap (fun i => ((XW cy x0 x v f) ++ (YW cy y0 r v1 f1 w1 g1))[i]?) = (XW cy x0 x v f) := rfl
set_option maxRecDepth 100000 in
theorem lx2 (cy : Nat → ClassId) (x0 y0 : Nat) (x r : Nat → Nat) (v : Nat → Int32) (f : Nat → Nat → Int32) (v1 : Nat → Int32) (f1 : Nat → Nat → Int32) (w1 : Int64) (g1 : Nat → Int64) : ([0, 1, 2, 3, 4, 5, 6, 7, 8, 9, 10, 11, 12, 13, 14, 15, 16, 17, 18, 19, 20, 21, 22, 23, 24, 25, 26, 27, 28, 29, 30, 31, 32, 33, 34, 35, 36, 37, 38, 39, 40, 41] : List Nat).map (fun i => ((XW cy x0 x v f) ++ (YW cy y0 r v1 f1 w1 g1))[i]?) = (XW cy x0 x v f).map some := rfl
set_option maxRecDepth 100000 in
theorem lx3 (cy : Nat → ClassId) (x0 y0 : Nat) (x r : Nat → Nat) (v : Nat → Int32) (f : Nat → Nat → Int32) (v1 : Nat → Int32) (f1 : Nat → Nat → Int32) (w1 : Int64) (g1 : Nat → Int64) : ([42, 43, 44, 45, 46, 47, 48, 49, 50, 51, 52, 53, 54, 55, 56, 57, 58, 59, 60, 61, 62, 63, 64, 65, 66, 67, 68, 69, 70, 71, 72, 73, 74, 75, 76, 77, 78, 79, 80] : List Nat).map (fun i => ((XW cy x0 x v f) ++ (YW cy y0 r v1 f1 w1 g1))[i]?) = (YW cy y0 r v1 f1 w1 g1).map some := rfl
set_option maxRecDepth 100000 in
theorem lx4 : va_nd [0, 1, 2, 3, 4, 5, 6, 7, 8, 9, 10, 11, 12, 13, 14, 15, 16, 17, 18, 19, 20, 21, 22, 23, 24, 25, 26, 27, 28, 29, 30, 31, 32, 33, 34, 35, 36, 37, 38, 39, 40, 41] = true := by decide
set_option maxRecDepth 100000 in
theorem lx5 : va_nd [42, 43, 44, 45, 46, 47, 48, 49, 50, 51, 52, 53, 54, 55, 56, 57, 58, 59, 60, 61, 62, 63, 64, 65, 66, 67, 68, 69, 70, 71, 72, 73, 74, 75, 76, 77, 78, 79, 80] = true := by decide
set_option maxRecDepth 100000 in
theorem lx6 : ∀ i ∈ ([42, 43, 44, 45, 46, 47, 48, 49, 50, 51, 52, 53, 54, 55, 56, 57, 58, 59, 60, 61, 62, 63, 64, 65, 66, 67, 68, 69, 70, 71, 72, 73, 74, 75, 76, 77, 78, 79, 80] : List Nat), i ∉ ([0, 1, 2, 3, 4, 5, 6, 7, 8, 9, 10, 11, 12, 13, 14, 15, 16, 17, 18, 19, 20, 21, 22, 23, 24, 25, 26, 27, 28, 29, 30, 31, 32, 33, 34, 35, 36, 37, 38, 39, 40, 41] : List Nat) := by decide
set_option maxRecDepth 100000 in
theorem ly1 (cy : Nat → ClassId) (x0 y0 : Nat) (x r : Nat → Nat) (v : Nat → Int32) (f : Nat → Nat → Int32) (v1 : Nat → Int32) (f1 : Nat → Nat → Int32) (w1 : Int64) (g1 : Nat → Int64) : ([0, 1, 2, 3, 4, 5, 6, 7, 8, 9, 10, 11, 12, 13, 14, 15, 16, 17, 18, 19, 20, 21, 22, 23, 24, 25, 26, 27, 28, 29, 30, 31, 32, 33, 34, 35, 36, 37, 38] : List Nat).filterMap (fun i => ((YW cy y0 r v1 f1 w1 g1) ++ (XW cy x0 x v f))[i]?) = (YW cy y0 r v1 f1 w1 g1) := rfl
set_option maxRecDepth 100000 in
theorem ly2 (cy : Nat → ClassId) (x0 y0 : Nat) (x r : Nat → Nat) (v : Nat → Int32) (f : Nat → Nat → Int32) (v1 : Nat → Int32) (f1 : Nat → Nat → Int32) (w1 : Int64) (g1 : Nat → Int64) : ([0, 1, 2, 3, 4, 5, 6, 7, 8, 9, 10, 11, 12, 13, 14, 15, 16, 17, 18, 19, 20, 21, 22, 23, 24, 25, 26, 27, 28, 29, 30, 31, 32, 33, 34, 35, 36, 37, 38] : List Nat).map (fun i => ((YW cy y0 r v1 f1 w1 g1) ++ (XW cy x0 x v f))[i]?) = (YW cy y0 r v1 f1 w1 g1).map some := rfl
set_option maxRecDepth 100000 in
theorem ly3 (cy : Nat → ClassId) (x0 y0 : Nat) (x r : Nat → Nat) (v : Nat → Int32) (f : Nat → Nat → Int32) (v1 : Nat → Int32) (f1 : Nat → Nat → Int32) (w1 : Int64) (g1 : Nat → Int64) : ([39, 40, 41, 42, 43, 44, 45, 46, 47, 48, 49, 50, 51, 52, 53, 54, 55, 56, 57, 58, 59, 60, 61, 62, 63, 64, 65, 66, 67, 68, 69, 70, 71, 72, 73, 74, 75, 76, 77, 78, 79, 80] : List Nat).map (fun i => ((YW cy y0 r v1 f1 w1 g1) ++ (XW cy x0 x v f))[i]?) = (XW cy x0 x v f).map some := rfl
set_option maxRecDepth 100000 in
theorem ly4 : va_nd [0, 1, 2, 3, 4, 5, 6, 7, 8, 9, 10, 11, 12, 13, 14, 15, 16, 17, 18, 19, 20, 21, 22, 23, 24, 25, 26, 27, 28, 29, 30, 31, 32, 33, 34, 35, 36, 37, 38] = true := by decide
set_option maxRecDepth 100000 in
theorem ly5 : va_nd [39, 40, 41, 42, 43, 44, 45, 46, 47, 48, 49, 50, 51, 52, 53, 54, 55, 56, 57, 58, 59, 60, 61, 62, 63, 64, 65, 66, 67, 68, 69, 70, 71, 72, 73, 74, 75, 76, 77, 78, 79, 80] = true := by decide
set_option maxRecDepth 100000 in
theorem ly6 : ∀ i ∈ ([39, 40, 41, 42, 43, 44, 45, 46, 47, 48, 49, 50, 51, 52, 53, 54, 55, 56, 57, 58, 59, 60, 61, 62, 63, 64, 65, 66, 67, 68, 69, 70, 71, 72, 73, 74, 75, 76, 77, 78, 79, 80] : List Nat), i ∉ ([0, 1, 2, 3, 4, 5, 6, 7, 8, 9, 10, 11, 12, 13, 14, 15, 16, 17, 18, 19, 20, 21, 22, 23, 24, 25, 26, 27, 28, 29, 30, 31, 32, 33, 34, 35, 36, 37, 38] : List Nat) := by decide
