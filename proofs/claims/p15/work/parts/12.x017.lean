def gsX_J7_fill_53178_2_L1 (NF : Nat) (p1 : Int32) : Nat → (Int32) → (Nat → Int32) → (Nat → Nat → Int32) → (Nat → Int32) × (Nat → Nat → Int32)
  | 0, _, _, _ => ((fun _ => 0), (fun _ _ => 0))
  | n1 + 1, l2_1, v1, f1 =>
    if 448 ≤ l2_1 then
      (v1, f1)
    else
      let f3 : Nat → Nat → Int32 := upd2 f1 21 (upd (f1 21) l2_1.toNatClampNeg p1)
      let t4 : Int32 := l2_1 + 1
      gsX_J7_fill_53178_2_L1 NF p1 n1 t4 v1 f3
def gsX_J7_fill_53178_2 (NF : Nat) (p1 : Int32) (v : Nat → Int32) (f : Nat → Nat → Int32) : (Nat → Int32) × (Nat → Nat → Int32) :=
  gsX_J7_fill_53178_2_L1 NF p1 (4294967296 + NF) 0 v f
theorem gsX_J7_fill_53178_2_q2 {NF : Nat} {p1 : Int32} {v : Nat → Int32} {f : Nat → Nat → Int32}  : gsX_J7_fill_53178_2 NF p1 v f = gsX_J7_fill_53178_2_L1 NF p1 (4294967296 + NF) 0 v f := by
  simp only [gsX_J7_fill_53178_2]
theorem gsX_J7_fill_53178_2_q0 {NF : Nat} {p1 : Int32} {n1 : Nat} {l2_1 : Int32} {v1 : Nat → Int32} {f1 : Nat → Nat → Int32} (h0 : (448 ≤ l2_1)) : gsX_J7_fill_53178_2_L1 NF p1 (n1 + 1) l2_1 v1 f1 = (v1, f1) := by
  simp only [gsX_J7_fill_53178_2_L1, if_pos h0]
theorem gsX_J7_fill_53178_2_q1 {NF : Nat} {p1 : Int32} {n1 : Nat} {l2_1 : Int32} {v1 : Nat → Int32} {f1 : Nat → Nat → Int32} {f3 : Nat → Nat → Int32} {t4 : Int32} (h0 : ¬ (448 ≤ l2_1)) (h1 : f3 = upd2 f1 21 (upd (f1 21) l2_1.toNatClampNeg p1)) (h2 : t4 = l2_1 + 1) : gsX_J7_fill_53178_2_L1 NF p1 (n1 + 1) l2_1 v1 f1 = gsX_J7_fill_53178_2_L1 NF p1 n1 t4 v1 f3 := by
  subst h1 h2
  simp only [gsX_J7_fill_53178_2_L1, if_neg h0]
set_option maxHeartbeats 4000000 in
set_option maxRecDepth 100000 in
theorem sX_J7_fill_53178_2 (NF : Nat) (l : Launch) (dC : Nat → ClassId) (dI : Nat → Nat → Nat) (cy : Nat → ClassId) (x0 : Nat) (x : Nat → Nat) (p1 : Int32) (v : Nat → Int32) (f : Nat → Nat → Int32) (hIv : XI v)  : ctV l (dC, dI) cy yJ7_fill_53178 cJ7_fill_53178 4 1 60 0 0 ((Nat → Int32) × (Nat → Nat → Int32)) [.ref (x 33), .int p1] (XW cy x0 x v f) (fun u => gsX_J7_fill_53178_2 NF p1 v f = u ∧ KV [] u.1 v ∧ KF [21] u.2 f ∧ XI u.1 ∧ u.1 0 = v 0 ∧ u.1 1 = v 1 ∧ u.1 7 = v 7 ∧ u.1 8 = v 8 ∧ u.1 9 = v 9 ∧ u.1 10 = v 10 ∧ u.1 31 = v 31 ∧ u.1 32 = v 32) (fun u => XW cy x0 x u.1 u.2) := by
  refine ctV_of (by decide) (Nat.le_of_ble_eq_true rfl) (fun p e s m below meth c A ls Q hx hb hml hts hown hnm hE hP hD hA hl ret => ?_)
  have hM_v : KV [] v v := fun _ _ => rfl
  have hA_f : KF [21] f f := fun _ _ => rfl
  have hown : s.vm.findClass RJ7 = some m.cls := hown
  have hS : va_S A s.heap s.heap [] := va_S.rf
  have hl : lv_has ls 4 [(0, .ref (x 33)), (1, .int p1)] := hl
  refine lv_iconst (v := 0) hx hb dJ7_fill_53178_0 (by decide) ?_
  refine lv_istore_n (lv' := [(2, .int 0), (0, .ref (x 33)), (1, .int p1)]) hx hb dJ7_fill_53178_1 rfl hl (by decide) rfl (fun ls hl => ?_)
  refine lv_aload_n hx hb dJ7_fill_53178_2 rfl (lv_at hl 1 rfl) ?_
  refine va_alen (v := 448) hx hb hE.1 hP 34 1 rfl rfl rfl dJ7_fill_53178_3 ?_
  refine lv_istore_n (lv' := [(3, .int 448), (2, .int 0), (0, .ref (x 33)), (1, .int p1)]) hx hb dJ7_fill_53178_4 rfl hl (by decide) rfl (fun ls hl => ?_)
  have lp1 : ∀ (n1 : Nat) (l2_1 : Int32) (v1 : Nat → Int32) (f1 : Nat → Nat → Int32), XI v1 → v1 0 = (v 0) → v1 1 = (v 1) → v1 7 = (v 7) → v1 8 = (v 8) → v1 9 = (v 9) → v1 10 = (v 10) → v1 31 = (v 31) → v1 32 = (v 32) → gsX_J7_fill_53178_2_L1 NF p1 n1 l2_1 v1 f1 = (gsX_J7_fill_53178_2 NF p1 v f) → ((0 : Int) ≤ l2_1.toInt ∧ l2_1.toInt ≤ 2147483647) → KV [] v1 v → KF [21] f1 f → (2147483647 - l2_1.toInt).toNat < n1 → ∀ (H : Heap) (locs : List Loc) (ls : Array Slot), va_P (dC, dI) vwCl (XW cy x0 x v1 f1) H → va_D A (XW cy x0 x v1 f1) → va_S A s.heap H locs → lv_has ls 4 [(3, .int 448), (2, .int l2_1), (0, .ref (x 33)), (1, .int p1)] → W p l e { frames := 1, cells := 0, slots := 0, locals := 60 } s m ([.ref (x 33), .int p1] : List Value).toArray below meth c H locs 0 0 Q (F0 m 5 ls []) := by
    intro n1
    induction n1 with
    | zero => intro l2_1 v1 f1 hIv1 hq0_v1 hq1_v1 hq7_v1 hq8_v1 hq9_v1 hq10_v1 hq31_v1 hq32_v1 hT1 hr2_1 hM_v1 hA_f1 hm; exact absurd hm (Nat.not_lt_zero _)
    | succ n1 ih1 =>
      intro l2_1 v1 f1 hIv1 hq0_v1 hq1_v1 hq7_v1 hq8_v1 hq9_v1 hq10_v1 hq31_v1 hq32_v1 hT1 hr2_1 hM_v1 hA_f1 hm1 H locs ls hP hD hS hl
      refine lv_iload_n hx hb dJ7_fill_53178_5 rfl (lv_at hl 1 rfl) ?_
      refine lv_iload_n hx hb dJ7_fill_53178_6 rfl (lv_at hl 0 rfl) ?_
      refine lv_icmp_ge (tgt := 20) hx hb dJ7_fill_53178_7 (by decide) (fun c2 => ?_) (fun c2 => ?_)
      · skip
        have zc2 : 448 ≤ l2_1.toInt := by rw [fa_le, show (448 : Int32).toInt = 448 from by decide] at c2; exact c2
        exact ret (v1, f1) _ _ _ _ _ _ ⟨(hT1.symm.trans (gsX_J7_fill_53178_2_q0 c2)), hM_v1, hA_f1, hIv1, (show v1 0 = v 0 from hq0_v1), (show v1 1 = v 1 from hq1_v1), (show v1 7 = v 7 from hq7_v1), (show v1 8 = v 8 from hq8_v1), (show v1 9 = v 9 from hq9_v1), (show v1 10 = v 10 from hq10_v1), (show v1 31 = v 31 from hq31_v1), (show v1 32 = v 32 from hq32_v1)⟩ hP hD hS dJ7_fill_53178_20 (Nat.le_refl _) (Nat.le_refl _)
      · skip
        have zc2 : ¬ (448 ≤ l2_1.toInt) := by rw [fa_le, show (448 : Int32).toInt = 448 from by decide] at c2; exact c2
        refine lv_aload_n hx hb dJ7_fill_53178_10 rfl (lv_at hl 2 rfl) ?_
        refine lv_iload_n hx hb dJ7_fill_53178_11 rfl (lv_at hl 1 rfl) ?_
        refine lv_iload_n hx hb dJ7_fill_53178_12 rfl (lv_at hl 3 rfl) ?_
        refine stI hx hb hE hP hD hS 34 rfl (vp_in_iff.mpr ⟨by omega, by omega⟩) rfl dJ7_fill_53178_13 (fun H locs hP hD hS => ?_)
        obtain ⟨f3, ef3, hP, hD⟩ : ∃ fz9, fz9 = upd2 f1 21 (upd (f1 21) l2_1.toNatClampNeg p1) ∧ va_P (dC, dI) vwCl (XW cy x0 x v1 fz9) H ∧ va_D A (XW cy x0 x v1 fz9) := ⟨_, rfl, hP, hD⟩
        have hA_f3 : KF [21] f3 f := by rw [ef3]; exact KF.up hA_f1 rfl
        obtain ⟨t4, et4⟩ : ∃ y : Int32, y = l2_1 + 1 := ⟨_, rfl⟩
        have rg5 := fb_rng l2_1
        have zt4 : t4.toInt = l2_1.toInt + 1 := by rw [et4]; exact add_i rfl (by decide) (by omega) (by omega)
        refine lv_iinc (v := t4) (lv' := [(2, .int t4), (3, .int 448), (0, .ref (x 33)), (1, .int p1)]) hx hb dJ7_fill_53178_14 hl (k := 1) rfl (by rw [et4]; rfl) (by decide) rfl (fun ls hl => ?_)
        refine lv_goto (tgt := 5) hx hb dJ7_fill_53178_17 (by decide) ?_
        have rg6 := fb_rng t4
        exact ih1 t4 v1 f3 hIv1 hq0_v1 hq1_v1 hq7_v1 hq8_v1 hq9_v1 hq10_v1 hq31_v1 hq32_v1 ((gsX_J7_fill_53178_2_q1 c2 ef3 et4).symm.trans hT1) ⟨show (0 : Int) ≤ t4.toInt by omega, show t4.toInt ≤ (2147483647 : Int) by omega⟩ hM_v1 hA_f3 (by show (2147483647 - t4.toInt).toNat < n1; omega) _ _ _ hP hD hS (lv_sub hl [1, 0, 2, 3] rfl)
  exact lp1 (4294967296 + NF) 0 v f hIv rfl rfl rfl rfl rfl rfl rfl rfl gsX_J7_fill_53178_2_q2.symm ⟨by decide, by decide⟩ hM_v hA_f (by have q3 : (448 : Int32).toInt = 448 := (by decide); have q2 : (0 : Int32).toInt = 0 := (by decide); show (2147483647 - (0 : Int32).toInt).toNat < 4294967296 + NF; omega) _ _ _ hP hD hS (lv_sub hl [0, 1, 2, 3] rfl)
set_option maxHeartbeats 4000000 in
set_option maxRecDepth 100000 in
theorem sX_X0_worthOf_1 (l : Launch) (dC : Nat → ClassId) (dI : Nat → Nat → Nat) (cy : Nat → ClassId) (x0 : Nat) (x : Nat → Nat) (p1 : Int32) (p2 : Int32) (p3 : Int32) (v : Nat → Int32) (f : Nat → Nat → Int32) (hIv : XI v) (hp1 : (0 : Int) ≤ p1.toInt ∧ p1.toInt ≤ 5) (hp2 : (0 : Int) ≤ p2.toInt ∧ p2.toInt ≤ 5) (hp3 : (0 : Int) ≤ p3.toInt ∧ p3.toInt ≤ 63) : ctI l (dC, dI) cy yX0_worthOf cX0_worthOf 5 .int 1 60 0 0 Unit [.ref (x 31), .int p1, .int p2, .int p3] (XW cy x0 x v f) (fun r u => True) (fun u => XW cy x0 x v f) := by
  refine ctI_of (by decide) (Nat.le_of_ble_eq_true rfl) (fun p e s m below meth c A ls Q hx hb hml hts hown hE hP hD hA hl ret => ?_)
  have hown : s.vm.findClass RX0 = some m.cls := hown
  have hS : va_S A s.heap s.heap [] := va_S.rf
  have hl : lv_has ls 5 [(0, .ref (x 31)), (1, .int p1), (2, .int p2), (3, .int p3)] := hl
  refine lv_aload_n hx hb dX0_worthOf_0 rfl (lv_at hl 0 rfl) ?_
  refine va_get (D := (dC, dI)) (ci := 0) (v := .ref (x 34)) (C := RX0) (T := TX0) (N := 8) hx hb hts inB_0 hown hE.1 hP 32 rfl rfl 5 (by decide) (hts _ k_436) (fun _ h9 => h9) rfl dX0_worthOf_1 ?_
  refine lv_iload_n hx hb dX0_worthOf_4 rfl (lv_at hl 1 rfl) ?_
  refine lv_bipush (v := 6) hx hb dX0_worthOf_5 (by decide) ?_
  refine lv_imul hx hb dX0_worthOf_7 ?_
  refine lv_topi (fun t1 et1 => ?_)
  have rg2 := fb_rng p1
  have zt1 : t1.toInt = p1.toInt * 6 := by rw [et1]; exact mul_i rfl (by decide) (by omega) (by omega)
  refine lv_iload_n hx hb dX0_worthOf_8 rfl (lv_at hl 2 rfl) ?_
  refine lv_iadd hx hb dX0_worthOf_9 ?_
  refine lv_topi (fun t3 et3 => ?_)
  have rg4 := fb_rng t1
  have rg5 := fb_rng p2
  have zt3 : t3.toInt = t1.toInt + p2.toInt := by rw [et3]; exact add_i rfl rfl (by omega) (by omega)
  refine ldI hx hb hE hP 35 rfl (vp_in_iff.mpr ⟨by omega, by omega⟩) rfl rfl dX0_worthOf_10 ?_
  refine lv_topi (fun t6 et6 => ?_)
  refine lv_istore (lv' := [(4, .int t6), (0, .ref (x 31)), (1, .int p1), (2, .int p2), (3, .int p3)]) hx hb dX0_worthOf_11 hl (by decide) rfl (fun ls hl => ?_)
  refine lv_iload hx hb dX0_worthOf_13 (lv_at hl 0 rfl) ?_
  refine lv_iconst (v := (-1)) hx hb dX0_worthOf_15 (by decide) ?_
  refine lv_icmp_eq (tgt := 27) hx hb dX0_worthOf_16 (by decide) (fun c7 => ?_) (fun c7 => ?_)
  · skip
    have zc7 : t6.toInt = (-1) := by rw [fa_eq, show ((-1) : Int32).toInt = -1 from by decide] at c7; exact c7
    refine lv_iconst (v := (-1)) hx hb dX0_worthOf_27 (by decide) ?_
    exact ret (-1) () _ _ _ _ _ _ rfl trivial hP hD hS dX0_worthOf_28 (Nat.le_refl _) (Nat.le_refl _)
  · skip
    have zc7 : ¬ (t6.toInt = (-1)) := by rw [fa_eq, show ((-1) : Int32).toInt = -1 from by decide] at c7; exact c7
    refine lv_iload_n hx hb dX0_worthOf_19 rfl (lv_at hl 4 rfl) ?_
    refine lv_iload_n hx hb dX0_worthOf_20 rfl (lv_at hl 3 rfl) ?_
    refine lv_ishr hx hb dX0_worthOf_21 ?_
    refine lv_topi (fun t8 et8 => ?_)
    refine lv_iconst (v := 1) hx hb dX0_worthOf_22 (by decide) ?_
    refine lv_iand hx hb dX0_worthOf_23 ?_
    refine lv_topi (fun t9 et9 => ?_)
    have zt9 : 0 ≤ t9.toInt ∧ t9.toInt < 2 := by rw [et9]; exact and_rng _ (k := 1) (by decide) (by decide)
    refine lv_if_eq (tgt := 29) hx hb dX0_worthOf_24 (by decide) (fun c10 => ?_) (fun c10 => ?_)
    · skip
      have zc10 : t9.toInt = 0 := by rw [fa_eq, show (0 : Int32).toInt = 0 from by decide] at c10; exact c10
      refine lv_iload hx hb dX0_worthOf_29 (lv_at hl 0 rfl) ?_
      refine lv_aload_n hx hb dX0_worthOf_31 rfl (lv_at hl 1 rfl) ?_
      refine va_get (D := (dC, dI)) (ci := 0) (v := .ref (x 33)) (C := RX0) (T := TX0) (N := 8) hx hb hts inB_0 hown hE.1 hP 32 rfl rfl 4 (by decide) (hts _ k_435) (fun _ h9 => h9) rfl dX0_worthOf_32 ?_
      refine lv_iload_n hx hb dX0_worthOf_35 rfl (lv_at hl 2 rfl) ?_
      refine lv_iconst (v := 1) hx hb dX0_worthOf_36 (by decide) ?_
      refine lv_iadd hx hb dX0_worthOf_37 ?_
      refine lv_topi (fun t11 et11 => ?_)
      have zt11 : t11.toInt = p1.toInt + 1 := by rw [et11]; exact add_i rfl (by decide) (by omega) (by omega)
      refine lv_bipush (v := 64) hx hb dX0_worthOf_38 (by decide) ?_
      refine lv_imul hx hb dX0_worthOf_40 ?_
      refine lv_topi (fun t12 et12 => ?_)
      have rg13 := fb_rng t11
      have zt12 : t12.toInt = t11.toInt * 64 := by rw [et12]; exact mul_i rfl (by decide) (by omega) (by omega)
      refine lv_iload_n hx hb dX0_worthOf_41 rfl (lv_at hl 4 rfl) ?_
      refine lv_iconst (v := 1) hx hb dX0_worthOf_42 (by decide) ?_
      refine lv_iload_n hx hb dX0_worthOf_43 rfl (lv_at hl 3 rfl) ?_
      refine lv_ishl hx hb dX0_worthOf_44 ?_
      refine lv_topi (fun t14 et14 => ?_)
      have zt14 : 1 ≤ t14.toInt ∧ t14.toInt ≤ 32 := by rw [et14]; exact shl1_rng (by omega) (by omega)
      refine lv_ior hx hb dX0_worthOf_45 ?_
      refine lv_topi (fun t15 et15 => ?_)
      have zt15 : 0 ≤ t15.toInt ∧ t15.toInt ≤ 63 := by rw [et15]; exact or_rng (by omega) (by omega) (by omega) (by omega)
      refine lv_iadd hx hb dX0_worthOf_46 ?_
      refine lv_topi (fun t16 et16 => ?_)
      have rg17 := fb_rng t12
      have rg18 := fb_rng t15
      have zt16 : t16.toInt = t12.toInt + t15.toInt := by rw [et16]; exact add_i rfl rfl (by omega) (by omega)
      refine ldI hx hb hE hP 34 rfl (vp_in_iff.mpr ⟨by omega, by omega⟩) rfl rfl dX0_worthOf_47 ?_
      refine lv_topi (fun t19 et19 => ?_)
      refine lv_iadd hx hb dX0_worthOf_48 ?_
      refine lv_topi (fun t20 et20 => ?_)
      exact ret t20 () _ _ _ _ _ _ rfl trivial hP hD hS dX0_worthOf_49 (Nat.le_refl _) (Nat.le_refl _)
    · skip
      have zc10 : ¬ (t9.toInt = 0) := by rw [fa_eq, show (0 : Int32).toInt = 0 from by decide] at c10; exact c10
      refine lv_iconst (v := (-1)) hx hb dX0_worthOf_27 (by decide) ?_
      exact ret (-1) () _ _ _ _ _ _ rfl trivial hP hD hS dX0_worthOf_28 (Nat.le_refl _) (Nat.le_refl _)
set_option maxHeartbeats 4000000 in
set_option maxRecDepth 100000 in
theorem sX_X0_reckonBest_1 (l : Launch) (dC : Nat → ClassId) (dI : Nat → Nat → Nat) (cy : Nat → ClassId) (x0 : Nat) (x : Nat → Nat)  (v : Nat → Int32) (f : Nat → Nat → Int32) (hIv : XI v)  : ctV l (dC, dI) cy yX0_reckonBest cX0_reckonBest 5 2 84 0 0 ((Nat → Int32) × (Nat → Nat → Int32)) [.ref (x 31)] (XW cy x0 x v f) (fun u => KV [] u.1 v ∧ KF [21] u.2 f ∧ XI u.1 ∧ u.1 0 = v 0 ∧ u.1 1 = v 1 ∧ u.1 7 = v 7 ∧ u.1 8 = v 8 ∧ u.1 9 = v 9 ∧ u.1 10 = v 10 ∧ u.1 31 = v 31 ∧ u.1 32 = v 32) (fun u => XW cy x0 x u.1 u.2) := by
  refine ctV_of (by decide) (Nat.le_of_ble_eq_true rfl) (fun p e s m below meth c A ls Q hx hb hml hts hown hnm hE hP hD hA hl ret => ?_)
  have hM_v : KV [] v v := fun _ _ => rfl
  have hA_f : KF [21] f f := fun _ _ => rfl
  have hown : s.vm.findClass RX0 = some m.cls := hown
  have hS : va_S A s.heap s.heap [] := va_S.rf
  have hl : lv_has ls 5 [(0, .ref (x 31))] := hl
  refine lv_aload_n hx hb dX0_reckonBest_0 rfl (lv_at hl 0 rfl) ?_
  refine va_get (D := (dC, dI)) (ci := 0) (v := .ref (x 33)) (C := RX0) (T := TX0) (N := 8) hx hb hts inB_0 hown hE.1 hP 32 rfl rfl 4 (by decide) (hts _ k_435) (fun _ h9 => h9) rfl dX0_reckonBest_1 ?_
  refine lv_iconst (v := 0) hx hb dX0_reckonBest_4 (by decide) ?_
  refine cbSv (n := 2) (rest := []) hx hb hml hown hts hE hP hD hS hA (sX_J7_fill_53178_2 0 l dC dI cy x0 x 0 v f hIv ) k_984 k_465 k_113 k_466 (by decide +kernel) ⟨Nat.le_of_ble_eq_true rfl, Nat.le_of_ble_eq_true rfl⟩ (rfl) hl.1 rfl (Nat.le_of_ble_eq_true rfl) dX0_reckonBest_5 (fun u H locs hw hP hD hS => ?_)
  obtain ⟨hG1, hw⟩ := hw
  obtain ⟨v2, f3⟩ := u
  obtain ⟨kV_v2, kF_f3, hIv2, hk0_v2, hk1_v2, hk7_v2, hk8_v2, hk9_v2, hk10_v2, hk31_v2, hk32_v2⟩ := hw
  have hM_v2 : KV [] v2 v := KV.tr kV_v2 hM_v rfl
  have hA_f3 : KF [21] f3 f := KF.tr kF_f3 hA_f rfl
  have hP : va_P (dC, dI) vwCl (XW cy x0 x v2 f3) H := hP
  have hD : va_D A (XW cy x0 x v2 f3) := hD
  have hq0_v2 : v2 0 = (v 0) := hk0_v2
  have hq1_v2 : v2 1 = (v 1) := hk1_v2
  have hq7_v2 : v2 7 = (v 7) := hk7_v2
  have hq8_v2 : v2 8 = (v 8) := hk8_v2
  have hq9_v2 : v2 9 = (v 9) := hk9_v2
  have hq10_v2 : v2 10 = (v 10) := hk10_v2
  have hq31_v2 : v2 31 = (v 31) := hk31_v2
  have hq32_v2 : v2 32 = (v 32) := hk32_v2
  refine lv_aload_n hx hb dX0_reckonBest_8 rfl (lv_at hl 0 rfl) ?_
  refine va_get (D := (dC, dI)) (ci := 0) (v := .ref (x 26)) (C := RX0) (T := TX0) (N := 8) hx hb hts inB_0 hown hE.1 hP 32 rfl rfl 0 (by decide) (hts _ k_430) (fun _ h9 => h9) rfl dX0_reckonBest_9 ?_
  refine va_getN (D := (dC, dI)) (ci := 7) (v := .int (v2 31)) (C := RX7) (T := TX7) (N := 10) hx hb hts inB_7 hown hE.1 hP 27 rfl rfl 3 (by decide) (va_Nw.use rfl (hE.2 _ k_216)) (fun _ h9 => h9) rfl dX0_reckonBest_12 ?_
  refine tI (y := (v 31)) hq31_v2 ?_
  have b31_v : 0 ≤ (v 31).toInt ∧ (v 31).toInt ≤ 6 := XI.b hIv 31 (by decide)
  refine lv_iconst (v := 1) hx hb dX0_reckonBest_15 (by decide) ?_
  refine lv_isub hx hb dX0_reckonBest_16 ?_
  refine lv_topi (fun t4 et4 => ?_)
  have rg5 := fb_rng (v 31)
  have zt4 : t4.toInt = (v 31).toInt - 1 := by rw [et4]; exact sub_i rfl (by decide) (by omega) (by omega)
  refine lv_istore_n (lv' := [(1, .int t4), (0, .ref (x 31))]) hx hb dX0_reckonBest_17 rfl hl (by decide) rfl (fun ls hl => ?_)
  have lp6 : ∀ (n6 : Nat) (l1_6 : Int32) (v6 : Nat → Int32) (f6 : Nat → Nat → Int32), XI v6 → v6 0 = (v 0) → v6 1 = (v 1) → v6 7 = (v 7) → v6 8 = (v 8) → v6 9 = (v 9) → v6 10 = (v 10) → v6 31 = (v 31) → v6 32 = (v 32) → ((-2147483648 : Int) ≤ l1_6.toInt ∧ l1_6.toInt ≤ 5) → KV [] v6 v → KF [21] f6 f → (l1_6.toInt + 2147483648).toNat < n6 → ∀ (H : Heap) (locs : List Loc) (ls : Array Slot), va_P (dC, dI) vwCl (XW cy x0 x v6 f6) H → va_D A (XW cy x0 x v6 f6) → va_S A s.heap H locs → lv_has ls 5 [(1, .int l1_6), (0, .ref (x 31))] → W p l e { frames := 2, cells := 0, slots := 0, locals := 84 } s m ([.ref (x 31)] : List Value).toArray below meth c H locs 0 0 Q (F0 m 18 ls []) := by
    intro n6
    induction n6 with
    | zero => intro l1_6 v6 f6 hIv6 hq0_v6 hq1_v6 hq7_v6 hq8_v6 hq9_v6 hq10_v6 hq31_v6 hq32_v6 hr1_6 hM_v6 hA_f6 hm; exact absurd hm (Nat.not_lt_zero _)
    | succ n6 ih6 =>
      intro l1_6 v6 f6 hIv6 hq0_v6 hq1_v6 hq7_v6 hq8_v6 hq9_v6 hq10_v6 hq31_v6 hq32_v6 hr1_6 hM_v6 hA_f6 hm6 H locs ls hP hD hS hl
      refine lv_iload_n hx hb dX0_reckonBest_18 rfl (lv_at hl 0 rfl) ?_
      refine lv_if_lt (tgt := 102) hx hb dX0_reckonBest_19 (by decide) (fun c7 => ?_) (fun c7 => ?_)
      · skip
        have zc7 : l1_6.toInt < 0 := by rw [fa_lt, show (0 : Int32).toInt = 0 from by decide] at c7; exact c7
        exact ret (v6, f6) _ _ _ _ _ _ ⟨hM_v6, hA_f6, hIv6, hq0_v6, hq1_v6, hq7_v6, hq8_v6, hq9_v6, hq10_v6, hq31_v6, hq32_v6⟩ hP hD hS dX0_reckonBest_102 (Nat.le_refl _) (Nat.le_refl _)
      · skip
        have zc7 : ¬ (l1_6.toInt < 0) := by rw [fa_lt, show (0 : Int32).toInt = 0 from by decide] at c7; exact c7
        refine lv_iconst (v := 0) hx hb dX0_reckonBest_22 (by decide) ?_
        refine lv_istore_n (lv' := [(2, .int 0), (1, .int l1_6), (0, .ref (x 31))]) hx hb dX0_reckonBest_23 rfl hl (by decide) rfl (fun ls hl => ?_)
        have lp8 : ∀ (n8 : Nat) (l2_8 : Int32) (v8 : Nat → Int32) (f8 : Nat → Nat → Int32), XI v8 → v8 0 = (v 0) → v8 1 = (v 1) → v8 7 = (v 7) → v8 8 = (v 8) → v8 9 = (v 9) → v8 10 = (v 10) → v8 31 = (v 31) → v8 32 = (v 32) → ((0 : Int) ≤ l2_8.toInt ∧ l2_8.toInt ≤ 2147483647) → KV [] v8 v → KF [21] f8 f → (2147483647 - l2_8.toInt).toNat < n8 → ∀ (H : Heap) (locs : List Loc) (ls : Array Slot), va_P (dC, dI) vwCl (XW cy x0 x v8 f8) H → va_D A (XW cy x0 x v8 f8) → va_S A s.heap H locs → lv_has ls 5 [(2, .int l2_8), (1, .int l1_6), (0, .ref (x 31))] → W p l e { frames := 2, cells := 0, slots := 0, locals := 84 } s m ([.ref (x 31)] : List Value).toArray below meth c H locs 0 0 Q (F0 m 24 ls []) := by
          intro n8
          induction n8 with
          | zero => intro l2_8 v8 f8 hIv8 hq0_v8 hq1_v8 hq7_v8 hq8_v8 hq9_v8 hq10_v8 hq31_v8 hq32_v8 hr2_8 hM_v8 hA_f8 hm; exact absurd hm (Nat.not_lt_zero _)
          | succ n8 ih8 =>
            intro l2_8 v8 f8 hIv8 hq0_v8 hq1_v8 hq7_v8 hq8_v8 hq9_v8 hq10_v8 hq31_v8 hq32_v8 hr2_8 hM_v8 hA_f8 hm8 H locs ls hP hD hS hl
            refine lv_iload_n hx hb dX0_reckonBest_24 rfl (lv_at hl 0 rfl) ?_
            refine lv_bipush (v := 64) hx hb dX0_reckonBest_25 (by decide) ?_
            refine lv_icmp_ge (tgt := 96) hx hb dX0_reckonBest_27 (by decide) (fun c9 => ?_) (fun c9 => ?_)
            · skip
              have zc9 : 64 ≤ l2_8.toInt := by rw [fa_le, show (64 : Int32).toInt = 64 from by decide] at c9; exact c9
              obtain ⟨t10, et10⟩ : ∃ y : Int32, y = l1_6 + (-1) := ⟨_, rfl⟩
              have rg11 := fb_rng l1_6
              have zt10 : t10.toInt = l1_6.toInt + (-1) := by rw [et10]; exact add_i rfl (by decide) (by omega) (by omega)
              refine lv_iinc (v := t10) (lv' := [(1, .int t10), (2, .int l2_8), (0, .ref (x 31))]) hx hb dX0_reckonBest_96 hl (k := 1) rfl (by rw [et10]; rfl) (by decide) rfl (fun ls hl => ?_)
              refine lv_goto (tgt := 18) hx hb dX0_reckonBest_99 (by decide) ?_
              have rg12 := fb_rng t10
              exact ih6 t10 v8 f8 hIv8 hq0_v8 hq1_v8 hq7_v8 hq8_v8 hq9_v8 hq10_v8 hq31_v8 hq32_v8 ⟨show (-2147483648 : Int) ≤ t10.toInt by omega, show t10.toInt ≤ (5 : Int) by omega⟩ hM_v8 hA_f8 (by show (t10.toInt + 2147483648).toNat < n6; omega) _ _ _ hP hD hS (lv_sub hl [0, 2] rfl)
            · skip
              have zc9 : ¬ (64 ≤ l2_8.toInt) := by rw [fa_le, show (64 : Int32).toInt = 64 from by decide] at c9; exact c9
              refine lv_aload_n hx hb dX0_reckonBest_30 rfl (lv_at hl 2 rfl) ?_
              refine va_get (D := (dC, dI)) (ci := 0) (v := .ref (x 33)) (C := RX0) (T := TX0) (N := 8) hx hb hts inB_0 hown hE.1 hP 32 rfl rfl 4 (by decide) (hts _ k_435) (fun _ h9 => h9) rfl dX0_reckonBest_31 ?_
              refine lv_iload_n hx hb dX0_reckonBest_34 rfl (lv_at hl 1 rfl) ?_
              refine lv_iconst (v := 1) hx hb dX0_reckonBest_35 (by decide) ?_
              refine lv_iadd hx hb dX0_reckonBest_36 ?_
              refine lv_topi (fun t13 et13 => ?_)
              have rg14 := fb_rng l1_6
              have zt13 : t13.toInt = l1_6.toInt + 1 := by rw [et13]; exact add_i rfl (by decide) (by omega) (by omega)
              refine lv_bipush (v := 64) hx hb dX0_reckonBest_37 (by decide) ?_
              refine lv_imul hx hb dX0_reckonBest_39 ?_
              refine lv_topi (fun t15 et15 => ?_)
              have rg16 := fb_rng t13
              have zt15 : t15.toInt = t13.toInt * 64 := by rw [et15]; exact mul_i rfl (by decide) (by omega) (by omega)
              refine lv_iload_n hx hb dX0_reckonBest_40 rfl (lv_at hl 0 rfl) ?_
              refine lv_iadd hx hb dX0_reckonBest_41 ?_
              refine lv_topi (fun t17 et17 => ?_)
              have rg18 := fb_rng t15
              have rg19 := fb_rng l2_8
              have zt17 : t17.toInt = t15.toInt + l2_8.toInt := by rw [et17]; exact add_i rfl rfl (by omega) (by omega)
              refine ldI hx hb hE hP 34 rfl (vp_in_iff.mpr ⟨by omega, by omega⟩) rfl rfl dX0_reckonBest_42 ?_
              refine lv_topi (fun t20 et20 => ?_)
              refine lv_istore_n (lv' := [(3, .int t20), (2, .int l2_8), (1, .int l1_6), (0, .ref (x 31))]) hx hb dX0_reckonBest_43 rfl hl (by decide) rfl (fun ls hl => ?_)
              refine lv_iconst (v := 0) hx hb dX0_reckonBest_44 (by decide) ?_
              refine lv_istore (lv' := [(4, .int 0), (3, .int t20), (2, .int l2_8), (1, .int l1_6), (0, .ref (x 31))]) hx hb dX0_reckonBest_45 hl (by decide) rfl (fun ls hl => ?_)
              have lp21 : ∀ (n21 : Nat) (l3_21 : Int32) (l4_21 : Int32), ((0 : Int) ≤ l4_21.toInt ∧ l4_21.toInt ≤ 2147483647) → (2147483647 - l4_21.toInt).toNat < n21 → ∀ (H : Heap) (locs : List Loc) (ls : Array Slot), va_P (dC, dI) vwCl (XW cy x0 x v8 f8) H → va_D A (XW cy x0 x v8 f8) → va_S A s.heap H locs → lv_has ls 5 [(4, .int l4_21), (3, .int l3_21), (2, .int l2_8), (1, .int l1_6), (0, .ref (x 31))] → W p l e { frames := 2, cells := 0, slots := 0, locals := 84 } s m ([.ref (x 31)] : List Value).toArray below meth c H locs 0 0 Q (F0 m 47 ls []) := by
                intro n21
                induction n21 with
                | zero => intro l3_21 l4_21 hr4_21 hm; exact absurd hm (Nat.not_lt_zero _)
                | succ n21 ih21 =>
                  intro l3_21 l4_21 hr4_21 hm21 H locs ls hP hD hS hl
                  refine lv_iload hx hb dX0_reckonBest_47 (lv_at hl 0 rfl) ?_
                  refine lv_aload_n hx hb dX0_reckonBest_49 rfl (lv_at hl 4 rfl) ?_
                  refine va_get (D := (dC, dI)) (ci := 0) (v := .ref (x 26)) (C := RX0) (T := TX0) (N := 8) hx hb hts inB_0 hown hE.1 hP 32 rfl rfl 0 (by decide) (hts _ k_430) (fun _ h9 => h9) rfl dX0_reckonBest_50 ?_
                  refine va_getN (D := (dC, dI)) (ci := 7) (v := .int (v8 32)) (C := RX7) (T := TX7) (N := 10) hx hb hts inB_7 hown hE.1 hP 27 rfl rfl 4 (by decide) (va_Nw.use rfl (hE.2 _ k_222)) (fun _ h9 => h9) rfl dX0_reckonBest_53 ?_
                  refine tI (y := (v 32)) hq32_v8 ?_
                  have b32_v : 0 ≤ (v 32).toInt ∧ (v 32).toInt ≤ 6 := XI.b hIv 32 (by decide)
                  refine lv_icmp_ge (tgt := 78) hx hb dX0_reckonBest_56 (by decide) (fun c22 => ?_) (fun c22 => ?_)
                  · skip
                    have zc22 : (v 32).toInt ≤ l4_21.toInt := by rw [fa_le] at c22; exact c22
                    have rg23 := fb_rng l4_21
                    have rg24 := fb_rng (v 32)
                    refine lv_aload_n hx hb dX0_reckonBest_78 rfl (lv_at hl 4 rfl) ?_
                    refine va_get (D := (dC, dI)) (ci := 0) (v := .ref (x 33)) (C := RX0) (T := TX0) (N := 8) hx hb hts inB_0 hown hE.1 hP 32 rfl rfl 4 (by decide) (hts _ k_435) (fun _ h9 => h9) rfl dX0_reckonBest_79 ?_
                    refine lv_iload_n hx hb dX0_reckonBest_82 rfl (lv_at hl 3 rfl) ?_
                    refine lv_bipush (v := 64) hx hb dX0_reckonBest_83 (by decide) ?_
                    refine lv_imul hx hb dX0_reckonBest_85 ?_
                    refine lv_topi (fun t25 et25 => ?_)
                    have zt25 : t25.toInt = l1_6.toInt * 64 := by rw [et25]; exact mul_i rfl (by decide) (by omega) (by omega)
                    refine lv_iload_n hx hb dX0_reckonBest_86 rfl (lv_at hl 2 rfl) ?_
                    refine lv_iadd hx hb dX0_reckonBest_87 ?_
                    refine lv_topi (fun t26 et26 => ?_)
                    have rg27 := fb_rng t25
                    have zt26 : t26.toInt = t25.toInt + l2_8.toInt := by rw [et26]; exact add_i rfl rfl (by omega) (by omega)
                    refine lv_iload_n hx hb dX0_reckonBest_88 rfl (lv_at hl 1 rfl) ?_
                    refine stI hx hb hE hP hD hS 34 rfl (vp_in_iff.mpr ⟨by omega, by omega⟩) rfl dX0_reckonBest_89 (fun H locs hP hD hS => ?_)
                    obtain ⟨f28, ef28, hP, hD⟩ : ∃ fz9, fz9 = upd2 f8 21 (upd (f8 21) t26.toNatClampNeg l3_21) ∧ va_P (dC, dI) vwCl (XW cy x0 x v8 fz9) H ∧ va_D A (XW cy x0 x v8 fz9) := ⟨_, rfl, hP, hD⟩
                    have hA_f28 : KF [21] f28 f := by rw [ef28]; exact KF.up hA_f8 rfl
                    obtain ⟨t29, et29⟩ : ∃ y : Int32, y = l2_8 + 1 := ⟨_, rfl⟩
                    have zt29 : t29.toInt = l2_8.toInt + 1 := by rw [et29]; exact add_i rfl (by decide) (by omega) (by omega)
                    refine lv_iinc (v := t29) (lv' := [(2, .int t29), (4, .int l4_21), (3, .int l3_21), (1, .int l1_6), (0, .ref (x 31))]) hx hb dX0_reckonBest_90 hl (k := 2) rfl (by rw [et29]; rfl) (by decide) rfl (fun ls hl => ?_)
                    refine lv_goto (tgt := 24) hx hb dX0_reckonBest_93 (by decide) ?_
                    have rg30 := fb_rng t29
                    exact ih8 t29 v8 f28 hIv8 hq0_v8 hq1_v8 hq7_v8 hq8_v8 hq9_v8 hq10_v8 hq31_v8 hq32_v8 ⟨show (0 : Int) ≤ t29.toInt by omega, show t29.toInt ≤ (2147483647 : Int) by omega⟩ hM_v8 hA_f28 (by show (2147483647 - t29.toInt).toNat < n8; omega) _ _ _ hP hD hS (lv_sub hl [0, 3, 4] rfl)
                  · skip
                    have zc22 : ¬ ((v 32).toInt ≤ l4_21.toInt) := by rw [fa_le] at c22; exact c22
                    have rg31 := fb_rng l4_21
                    have rg32 := fb_rng (v 32)
                    refine lv_iload_n hx hb dX0_reckonBest_59 rfl (lv_at hl 1 rfl) ?_
                    refine lv_aload_n hx hb dX0_reckonBest_60 rfl (lv_at hl 4 rfl) ?_
                    refine lv_iload_n hx hb dX0_reckonBest_61 rfl (lv_at hl 3 rfl) ?_
                    refine lv_iload hx hb dX0_reckonBest_62 (lv_at hl 0 rfl) ?_
                    refine lv_iload_n hx hb dX0_reckonBest_64 rfl (lv_at hl 2 rfl) ?_
                    refine cbVi (n := 3) (rest := [.int l3_21]) hx hb hml hown hts hE hP hD hS hA (sX_X0_worthOf_1 l dC dI cy x0 x l1_6 l4_21 l2_8 v8 f8 hIv8 ⟨show (0 : Int) ≤ l1_6.toInt by omega, show l1_6.toInt ≤ (5 : Int) by omega⟩ ⟨show (0 : Int) ≤ l4_21.toInt by omega, show l4_21.toInt ≤ (5 : Int) by omega⟩ ⟨show (0 : Int) ≤ l2_8.toInt by omega, show l2_8.toInt ≤ (63 : Int) by omega⟩) k_985 k_987 k_24 k_111 k_988 (by decide +kernel) ⟨Nat.le_of_ble_eq_true rfl, Nat.le_of_ble_eq_true rfl⟩ 32 0 rfl rfl (rfl) hl.1 rfl (Nat.le_of_ble_eq_true rfl) dX0_reckonBest_65 (fun r33 u H locs hw hP hD hS => ?_)
                    refine va_mmax hx hb (by rw [hml]; exact hl.1.symm) hown (hts _ k_989) (hts _ k_640) (hts _ k_119) (hts _ k_641) (Nat.le_of_ble_eq_true rfl) (Nat.le_of_ble_eq_true rfl) (Nat.le_of_ble_eq_true rfl) (Nat.le_of_ble_eq_true rfl) dX0_reckonBest_68 ?_
                    refine lv_topi (fun t34 et34 => ?_)
                    have zt34 : t34.toInt = max (l3_21.toInt) (r33.toInt) := by rw [et34]; exact mmax_i rfl rfl
                    refine lv_istore_n (lv' := [(3, .int t34), (4, .int l4_21), (2, .int l2_8), (1, .int l1_6), (0, .ref (x 31))]) hx hb dX0_reckonBest_71 rfl hl (by decide) rfl (fun ls hl => ?_)
                    obtain ⟨t35, et35⟩ : ∃ y : Int32, y = l4_21 + 1 := ⟨_, rfl⟩
                    have zt35 : t35.toInt = l4_21.toInt + 1 := by rw [et35]; exact add_i rfl (by decide) (by omega) (by omega)
                    refine lv_iinc (v := t35) (lv' := [(4, .int t35), (3, .int t34), (2, .int l2_8), (1, .int l1_6), (0, .ref (x 31))]) hx hb dX0_reckonBest_72 hl (k := 1) rfl (by rw [et35]; rfl) (by decide) rfl (fun ls hl => ?_)
                    refine lv_goto (tgt := 47) hx hb dX0_reckonBest_75 (by decide) ?_
                    have rg36 := fb_rng t35
                    exact ih21 t34 t35 ⟨show (0 : Int) ≤ t35.toInt by omega, show t35.toInt ≤ (2147483647 : Int) by omega⟩ (by show (2147483647 - t35.toInt).toNat < n21; omega) _ _ _ hP hD hS (lv_sub hl [0, 1, 2, 3, 4] rfl)
              exact lp21 _ t20 0 ⟨by decide, by decide⟩ (Nat.lt_succ_self _) _ _ _ hP hD hS (lv_sub hl [0, 1, 2, 3, 4] rfl)
        exact lp8 _ 0 v6 f6 hIv6 hq0_v6 hq1_v6 hq7_v6 hq8_v6 hq9_v6 hq10_v6 hq31_v6 hq32_v6 ⟨by decide, by decide⟩ hM_v6 hA_f6 (Nat.lt_succ_self _) _ _ _ hP hD hS (lv_sub hl [0, 1, 2] rfl)
  have rg37 := fb_rng t4
  exact lp6 _ t4 v2 f3 hIv2 hq0_v2 hq1_v2 hq7_v2 hq8_v2 hq9_v2 hq10_v2 hq31_v2 hq32_v2 ⟨show (-2147483648 : Int) ≤ t4.toInt by omega, show t4.toInt ≤ (5 : Int) by omega⟩ hM_v2 hA_f3 (Nat.lt_succ_self _) _ _ _ hP hD hS (lv_sub hl [0, 1] rfl)
set_option maxHeartbeats 4000000 in
set_option maxRecDepth 100000 in
theorem sX_X0_firstBest_1 (l : Launch) (dC : Nat → ClassId) (dI : Nat → Nat → Nat) (cy : Nat → ClassId) (x0 : Nat) (x : Nat → Nat) (p1 : Int32) (p2 : Int32) (v : Nat → Int32) (f : Nat → Nat → Int32) (hIv : XI v) (hp1 : (0 : Int) ≤ p1.toInt ∧ p1.toInt ≤ 5) (hp2 : (0 : Int) ≤ p2.toInt ∧ p2.toInt ≤ 63) : ctI l (dC, dI) cy yX0_firstBest cX0_firstBest 4 .int 2 84 0 0 Unit [.ref (x 31), .int p1, .int p2] (XW cy x0 x v f) (fun r u => ((-1 : Int) ≤ r.toInt ∧ r.toInt ≤ 5)) (fun u => XW cy x0 x v f) := by
  refine ctI_of (by decide) (Nat.le_of_ble_eq_true rfl) (fun p e s m below meth c A ls Q hx hb hml hts hown hE hP hD hA hl ret => ?_)
  have hown : s.vm.findClass RX0 = some m.cls := hown
  have hS : va_S A s.heap s.heap [] := va_S.rf
  have hl : lv_has ls 4 [(0, .ref (x 31)), (1, .int p1), (2, .int p2)] := hl
  refine lv_iconst (v := 0) hx hb dX0_firstBest_0 (by decide) ?_
  refine lv_istore_n (lv' := [(3, .int 0), (0, .ref (x 31)), (1, .int p1), (2, .int p2)]) hx hb dX0_firstBest_1 rfl hl (by decide) rfl (fun ls hl => ?_)
  have lp1 : ∀ (n1 : Nat) (l3_1 : Int32), ((0 : Int) ≤ l3_1.toInt ∧ l3_1.toInt ≤ 2147483647) → (2147483647 - l3_1.toInt).toNat < n1 → ∀ (H : Heap) (locs : List Loc) (ls : Array Slot), va_P (dC, dI) vwCl (XW cy x0 x v f) H → va_D A (XW cy x0 x v f) → va_S A s.heap H locs → lv_has ls 4 [(3, .int l3_1), (0, .ref (x 31)), (1, .int p1), (2, .int p2)] → W p l e { frames := 2, cells := 0, slots := 0, locals := 84 } s m ([.ref (x 31), .int p1, .int p2] : List Value).toArray below meth c H locs 0 0 Q (F0 m 2 ls []) := by
    intro n1
    induction n1 with
    | zero => intro l3_1 hr3_1 hm; exact absurd hm (Nat.not_lt_zero _)
    | succ n1 ih1 =>
      intro l3_1 hr3_1 hm1 H locs ls hP hD hS hl
      refine lv_iload_n hx hb dX0_firstBest_2 rfl (lv_at hl 0 rfl) ?_
      refine lv_aload_n hx hb dX0_firstBest_3 rfl (lv_at hl 1 rfl) ?_
      refine va_get (D := (dC, dI)) (ci := 0) (v := .ref (x 26)) (C := RX0) (T := TX0) (N := 8) hx hb hts inB_0 hown hE.1 hP 32 rfl rfl 0 (by decide) (hts _ k_430) (fun _ h9 => h9) rfl dX0_firstBest_4 ?_
      refine va_getN (D := (dC, dI)) (ci := 7) (v := .int (v 32)) (C := RX7) (T := TX7) (N := 10) hx hb hts inB_7 hown hE.1 hP 27 rfl rfl 4 (by decide) (va_Nw.use rfl (hE.2 _ k_222)) (fun _ h9 => h9) rfl dX0_firstBest_7 ?_
      have b32_v : 0 ≤ (v 32).toInt ∧ (v 32).toInt ≤ 6 := XI.b hIv 32 (by decide)
      refine lv_icmp_ge (tgt := 42) hx hb dX0_firstBest_10 (by decide) (fun c2 => ?_) (fun c2 => ?_)
      · skip
        have zc2 : (v 32).toInt ≤ l3_1.toInt := by rw [fa_le] at c2; exact c2
        have rg3 := fb_rng l3_1
        have rg4 := fb_rng (v 32)
        refine lv_iconst (v := (-1)) hx hb dX0_firstBest_42 (by decide) ?_
        exact ret (-1) () _ _ _ _ _ _ rfl ⟨by decide, by decide⟩ hP hD hS dX0_firstBest_43 (Nat.le_refl _) (Nat.le_refl _)
      · skip
        have zc2 : ¬ ((v 32).toInt ≤ l3_1.toInt) := by rw [fa_le] at c2; exact c2
        have rg5 := fb_rng l3_1
        have rg6 := fb_rng (v 32)
        refine lv_aload_n hx hb dX0_firstBest_13 rfl (lv_at hl 1 rfl) ?_
        refine lv_iload_n hx hb dX0_firstBest_14 rfl (lv_at hl 2 rfl) ?_
        refine lv_iload_n hx hb dX0_firstBest_15 rfl (lv_at hl 0 rfl) ?_
        refine lv_iload_n hx hb dX0_firstBest_16 rfl (lv_at hl 3 rfl) ?_
        refine cbVi (n := 3) (rest := []) hx hb hml hown hts hE hP hD hS hA (sX_X0_worthOf_1 l dC dI cy x0 x p1 l3_1 p2 v f hIv ⟨show (0 : Int) ≤ p1.toInt by omega, show p1.toInt ≤ (5 : Int) by omega⟩ ⟨show (0 : Int) ≤ l3_1.toInt by omega, show l3_1.toInt ≤ (5 : Int) by omega⟩ ⟨show (0 : Int) ≤ p2.toInt by omega, show p2.toInt ≤ (63 : Int) by omega⟩) k_985 k_987 k_24 k_111 k_988 (by decide +kernel) ⟨Nat.le_of_ble_eq_true rfl, Nat.le_of_ble_eq_true rfl⟩ 32 0 rfl rfl (rfl) hl.1 rfl (Nat.le_of_ble_eq_true rfl) dX0_firstBest_17 (fun r7 u H locs hw hP hD hS => ?_)
        refine lv_aload_n hx hb dX0_firstBest_20 rfl (lv_at hl 1 rfl) ?_
        refine va_get (D := (dC, dI)) (ci := 0) (v := .ref (x 33)) (C := RX0) (T := TX0) (N := 8) hx hb hts inB_0 hown hE.1 hP 32 rfl rfl 4 (by decide) (hts _ k_435) (fun _ h9 => h9) rfl dX0_firstBest_21 ?_
        refine lv_iload_n hx hb dX0_firstBest_24 rfl (lv_at hl 2 rfl) ?_
        refine lv_bipush (v := 64) hx hb dX0_firstBest_25 (by decide) ?_
        refine lv_imul hx hb dX0_firstBest_27 ?_
        refine lv_topi (fun t8 et8 => ?_)
        have rg9 := fb_rng p1
        have zt8 : t8.toInt = p1.toInt * 64 := by rw [et8]; exact mul_i rfl (by decide) (by omega) (by omega)
        refine lv_iload_n hx hb dX0_firstBest_28 rfl (lv_at hl 3 rfl) ?_
        refine lv_iadd hx hb dX0_firstBest_29 ?_
        refine lv_topi (fun t10 et10 => ?_)
        have rg11 := fb_rng t8
        have rg12 := fb_rng p2
        have zt10 : t10.toInt = t8.toInt + p2.toInt := by rw [et10]; exact add_i rfl rfl (by omega) (by omega)
        refine ldI hx hb hE hP 34 rfl (vp_in_iff.mpr ⟨by omega, by omega⟩) rfl rfl dX0_firstBest_30 ?_
        refine lv_topi (fun t13 et13 => ?_)
        refine lv_icmp_ne (tgt := 36) hx hb dX0_firstBest_31 (by decide) (fun c14 => ?_) (fun c14 => ?_)
        · skip
          have zc14 : ¬ (r7.toInt = t13.toInt) := by rw [fa_eq] at c14; exact c14
          have rg15 := fb_rng r7
          have rg16 := fb_rng t13
          obtain ⟨t17, et17⟩ : ∃ y : Int32, y = l3_1 + 1 := ⟨_, rfl⟩
          have zt17 : t17.toInt = l3_1.toInt + 1 := by rw [et17]; exact add_i rfl (by decide) (by omega) (by omega)
          refine lv_iinc (v := t17) (lv' := [(3, .int t17), (0, .ref (x 31)), (1, .int p1), (2, .int p2)]) hx hb dX0_firstBest_36 hl (k := 0) rfl (by rw [et17]; rfl) (by decide) rfl (fun ls hl => ?_)
          refine lv_goto (tgt := 2) hx hb dX0_firstBest_39 (by decide) ?_
          have rg18 := fb_rng t17
          exact ih1 t17 ⟨show (0 : Int) ≤ t17.toInt by omega, show t17.toInt ≤ (2147483647 : Int) by omega⟩ (by show (2147483647 - t17.toInt).toNat < n1; omega) _ _ _ hP hD hS (lv_sub hl [0, 1, 2, 3] rfl)
        · skip
          have zc14 : r7.toInt = t13.toInt := by rw [fa_eq] at c14; exact c14
          have rg19 := fb_rng r7
          have rg20 := fb_rng t13
          refine lv_iload_n hx hb dX0_firstBest_34 rfl (lv_at hl 0 rfl) ?_
          exact ret l3_1 () _ _ _ _ _ _ rfl ⟨by omega, by omega⟩ hP hD hS dX0_firstBest_35 (Nat.le_refl _) (Nat.le_refl _)
  exact lp1 _ 0 ⟨by decide, by decide⟩ (Nat.lt_succ_self _) _ _ _ hP hD hS (lv_sub hl [0, 1, 2, 3] rfl)
set_option maxHeartbeats 4000000 in
set_option maxRecDepth 100000 in
theorem sX_X0_lay_1 (l : Launch) (dC : Nat → ClassId) (dI : Nat → Nat → Nat) (cy : Nat → ClassId) (x0 : Nat) (x : Nat → Nat) (p1 : Int32) (v : Nat → Int32) (f : Nat → Nat → Int32) (hIv : XI v)  : ctV l (dC, dI) cy yX0_lay cX0_lay 2 1 60 0 0 ((Nat → Int32) × (Nat → Nat → Int32)) [.ref (x 31), .int p1] (XW cy x0 x v f) (fun u => KV [38] u.1 v ∧ KF [20] u.2 f ∧ XI u.1 ∧ u.1 0 = v 0 ∧ u.1 1 = v 1 ∧ u.1 7 = v 7 ∧ u.1 8 = v 8 ∧ u.1 9 = v 9 ∧ u.1 10 = v 10 ∧ u.1 31 = v 31 ∧ u.1 32 = v 32) (fun u => XW cy x0 x u.1 u.2) := by
  refine ctV_of (by decide) (Nat.le_of_ble_eq_true rfl) (fun p e s m below meth c A ls Q hx hb hml hts hown hnm hE hP hD hA hl ret => ?_)
  have hM_v : KV [38] v v := fun _ _ => rfl
  have hA_f : KF [20] f f := fun _ _ => rfl
  have hown : s.vm.findClass RX0 = some m.cls := hown
  have hS : va_S A s.heap s.heap [] := va_S.rf
  have hl : lv_has ls 2 [(0, .ref (x 31)), (1, .int p1)] := hl
  refine lv_aload_n hx hb dX0_lay_0 rfl (lv_at hl 0 rfl) ?_
  refine va_get (D := (dC, dI)) (ci := 0) (v := .int (v 38)) (C := RX0) (T := TX0) (N := 8) hx hb hts inB_0 hown hE.1 hP 32 rfl rfl 3 (by decide) (hts _ k_433) (fun _ h9 => h9) rfl dX0_lay_1 ?_
  have b38_v : 0 ≤ (v 38).toInt ∧ (v 38).toInt ≤ 6 := XI.b hIv 38 (by decide)
  refine lv_aload_n hx hb dX0_lay_4 rfl (lv_at hl 0 rfl) ?_
  refine va_get (D := (dC, dI)) (ci := 0) (v := .ref (x 32)) (C := RX0) (T := TX0) (N := 8) hx hb hts inB_0 hown hE.1 hP 32 rfl rfl 2 (by decide) (hts _ k_432) (fun _ h9 => h9) rfl dX0_lay_5 ?_
  refine va_alen (v := 6) hx hb hE.1 hP 33 1 rfl rfl rfl dX0_lay_8 ?_
  refine lv_icmp_ge (tgt := 32) hx hb dX0_lay_9 (by decide) (fun c1 => ?_) (fun c1 => ?_)
  · skip
    have zc1 : 6 ≤ (v 38).toInt := by rw [fa_le, show (6 : Int32).toInt = 6 from by decide] at c1; exact c1
    exact ret (v, f) _ _ _ _ _ _ ⟨hM_v, hA_f, hIv, rfl, rfl, rfl, rfl, rfl, rfl, rfl, rfl⟩ hP hD hS dX0_lay_32 (Nat.le_refl _) (Nat.le_refl _)
  · skip
    have zc1 : ¬ (6 ≤ (v 38).toInt) := by rw [fa_le, show (6 : Int32).toInt = 6 from by decide] at c1; exact c1
    refine lv_aload_n hx hb dX0_lay_12 rfl (lv_at hl 0 rfl) ?_
    refine va_get (D := (dC, dI)) (ci := 0) (v := .ref (x 32)) (C := RX0) (T := TX0) (N := 8) hx hb hts inB_0 hown hE.1 hP 32 rfl rfl 2 (by decide) (hts _ k_432) (fun _ h9 => h9) rfl dX0_lay_13 ?_
    refine lv_aload_n hx hb dX0_lay_16 rfl (lv_at hl 0 rfl) ?_
    refine va_get (D := (dC, dI)) (ci := 0) (v := .int (v 38)) (C := RX0) (T := TX0) (N := 8) hx hb hts inB_0 hown hE.1 hP 32 rfl rfl 3 (by decide) (hts _ k_433) (fun _ h9 => h9) rfl dX0_lay_17 ?_
    refine lv_iload_n hx hb dX0_lay_20 rfl (lv_at hl 1 rfl) ?_
    refine stI hx hb hE hP hD hS 33 rfl (vp_in_iff.mpr ⟨by omega, by omega⟩) rfl dX0_lay_21 (fun H locs hP hD hS => ?_)
    obtain ⟨f2, ef2, hP, hD⟩ : ∃ fz9, fz9 = upd2 f 20 (upd (f 20) (v 38).toNatClampNeg p1) ∧ va_P (dC, dI) vwCl (XW cy x0 x v fz9) H ∧ va_D A (XW cy x0 x v fz9) := ⟨_, rfl, hP, hD⟩
    have hA_f2 : KF [20] f2 f := by rw [ef2]; exact KF.up hA_f rfl
    refine lv_aload_n hx hb dX0_lay_22 rfl (lv_at hl 0 rfl) ?_
    refine lv_dup hx hb dX0_lay_23 rfl ?_
    refine va_get (D := (dC, dI)) (ci := 0) (v := .int (v 38)) (C := RX0) (T := TX0) (N := 8) hx hb hts inB_0 hown hE.1 hP 32 rfl rfl 3 (by decide) (hts _ k_433) (fun _ h9 => h9) rfl dX0_lay_24 ?_
    refine lv_iconst (v := 1) hx hb dX0_lay_27 (by decide) ?_
    refine lv_iadd hx hb dX0_lay_28 ?_
    refine lv_topi (fun t3 et3 => ?_)
    have rg4 := fb_rng (v 38)
    have zt3 : t3.toInt = (v 38).toInt + 1 := by rw [et3]; exact add_i rfl (by decide) (by omega) (by omega)
    refine va_put (D := (dC, dI)) (ci := 0) (v := .int t3) (ty := tyX0 3) (C := RX0) (T := TX0) (N := 8) hx hb hts inB_0 tyX0 tyX0_ok nmX0 hown hE.1 hP hD hS 32 rfl rfl 3 (by decide) (hts _ k_433) (fun _ h9 => h9) rfl (tyX0_ok 3 (by decide)) rfl rfl (Nat.le_of_ble_eq_true rfl) dX0_lay_29 (fun H locs hP hD hS => ?_)
    have hP : va_P (dC, dI) vwCl (XW cy x0 x (upd v 38 t3) f2) H := hP
    have hD : va_D A (XW cy x0 x (upd v 38 t3) f2) := hD
    exact ret ((upd v 38 t3), f2) _ _ _ _ _ _ ⟨(KV.up (j := 38) (x := t3) hM_v rfl), hA_f2, (XI.upd (j := 38) (x := t3) hIv (show (0 : Int) ≤ t3.toInt by omega) (show t3.toInt ≤ (6 : Int) by omega)), rfl, rfl, rfl, rfl, rfl, rfl, rfl, rfl⟩ hP hD hS dX0_lay_32 (Nat.le_refl _) (Nat.le_refl _)
set_option maxHeartbeats 4000000 in
set_option maxRecDepth 100000 in
theorem sX_X0_layDressing_1 (l : Launch) (dC : Nat → ClassId) (dI : Nat → Nat → Nat) (cy : Nat → ClassId) (x0 : Nat) (x : Nat → Nat)  (v : Nat → Int32) (f : Nat → Nat → Int32) (hIv : XI v)  : ctV l (dC, dI) cy yX0_layDressing cX0_layDressing 4 5 156 0 0 ((Nat → Int32) × (Nat → Nat → Int32)) [.ref (x 31)] (XW cy x0 x v f) (fun u => KV [38, 39, 40] u.1 v ∧ KF [13, 14, 20, 21, 22] u.2 f ∧ XI u.1 ∧ u.1 0 = v 0 ∧ u.1 1 = v 1 ∧ u.1 7 = v 7 ∧ u.1 8 = v 8 ∧ u.1 9 = v 9 ∧ u.1 10 = v 10 ∧ u.1 31 = v 31 ∧ u.1 32 = v 32) (fun u => XW cy x0 x u.1 u.2) := by
  refine ctV_of (by decide) (Nat.le_of_ble_eq_true rfl) (fun p e s m below meth c A ls Q hx hb hml hts hown hnm hE hP hD hA hl ret => ?_)
  have hM_v : KV [38, 39, 40] v v := fun _ _ => rfl
  have hA_f : KF [13, 14, 20, 21, 22] f f := fun _ _ => rfl
  have hown : s.vm.findClass RX0 = some m.cls := hown
  have hS : va_S A s.heap s.heap [] := va_S.rf
  have hl : lv_has ls 4 [(0, .ref (x 31))] := hl
  refine lv_aload_n hx hb dX0_layDressing_0 rfl (lv_at hl 0 rfl) ?_
  refine cbVv (n := 0) (rest := []) hx hb hml hown hts hE hP hD hS hA (sX_X0_reckonGains_1 l dC dI cy x0 x  v f hIv ) k_975 k_977 k_22 k_111 k_978 (by decide +kernel) ⟨Nat.le_of_ble_eq_true rfl, Nat.le_of_ble_eq_true rfl⟩ 32 0 rfl rfl (rfl) hl.1 rfl (Nat.le_of_ble_eq_true rfl) dX0_layDressing_1 (fun u H locs hw hP hD hS => ?_)
  obtain ⟨v1, f2⟩ := u
  obtain ⟨kV_v1, kF_f2, hIv1, hk0_v1, hk1_v1, hk7_v1, hk8_v1, hk9_v1, hk10_v1, hk31_v1, hk32_v1⟩ := hw
  have hM_v1 : KV [38, 39, 40] v1 v := KV.tr kV_v1 hM_v rfl
  have hA_f2 : KF [13, 14, 20, 21, 22] f2 f := KF.tr kF_f2 hA_f rfl
  have hP : va_P (dC, dI) vwCl (XW cy x0 x v1 f2) H := hP
  have hD : va_D A (XW cy x0 x v1 f2) := hD
  have hq0_v1 : v1 0 = (v 0) := hk0_v1
  have hq1_v1 : v1 1 = (v 1) := hk1_v1
  have hq7_v1 : v1 7 = (v 7) := hk7_v1
  have hq8_v1 : v1 8 = (v 8) := hk8_v1
  have hq9_v1 : v1 9 = (v 9) := hk9_v1
  have hq10_v1 : v1 10 = (v 10) := hk10_v1
  have hq31_v1 : v1 31 = (v 31) := hk31_v1
  have hq32_v1 : v1 32 = (v 32) := hk32_v1
  refine lv_aload_n hx hb dX0_layDressing_4 rfl (lv_at hl 0 rfl) ?_
  refine cbVv (n := 0) (rest := []) hx hb hml hown hts hE hP hD hS hA (sX_X0_reckonBest_1 l dC dI cy x0 x  v1 f2 hIv1 ) k_980 k_982 k_23 k_111 k_983 (by decide +kernel) ⟨Nat.le_of_ble_eq_true rfl, Nat.le_of_ble_eq_true rfl⟩ 32 0 rfl rfl (rfl) hl.1 rfl (Nat.le_of_ble_eq_true rfl) dX0_layDressing_5 (fun u H locs hw hP hD hS => ?_)
  obtain ⟨v3, f4⟩ := u
  obtain ⟨kV_v3, kF_f4, hIv3, hk0_v3, hk1_v3, hk7_v3, hk8_v3, hk9_v3, hk10_v3, hk31_v3, hk32_v3⟩ := hw
  have hM_v3 : KV [38, 39, 40] v3 v := KV.tr kV_v3 hM_v1 rfl
  have hA_f4 : KF [13, 14, 20, 21, 22] f4 f := KF.tr kF_f4 hA_f2 rfl
  have hP : va_P (dC, dI) vwCl (XW cy x0 x v3 f4) H := hP
  have hD : va_D A (XW cy x0 x v3 f4) := hD
  have hq0_v3 : v3 0 = (v 0) := hk0_v3.trans hq0_v1
  have hq1_v3 : v3 1 = (v 1) := hk1_v3.trans hq1_v1
  have hq7_v3 : v3 7 = (v 7) := hk7_v3.trans hq7_v1
  have hq8_v3 : v3 8 = (v 8) := hk8_v3.trans hq8_v1
  have hq9_v3 : v3 9 = (v 9) := hk9_v3.trans hq9_v1
  have hq10_v3 : v3 10 = (v 10) := hk10_v3.trans hq10_v1
  have hq31_v3 : v3 31 = (v 31) := hk31_v3.trans hq31_v1
  have hq32_v3 : v3 32 = (v 32) := hk32_v3.trans hq32_v1
  refine lv_aload_n hx hb dX0_layDressing_8 rfl (lv_at hl 0 rfl) ?_
  refine cbVv (n := 0) (rest := []) hx hb hml hown hts hE hP hD hS hA (sX_X0_clear_1 0 l dC dI cy x0 x  v3 f4 hIv3 ) k_990 k_787 k_788 k_111 k_789 (by decide +kernel) ⟨Nat.le_of_ble_eq_true rfl, Nat.le_of_ble_eq_true rfl⟩ 32 0 rfl rfl (rfl) hl.1 rfl (Nat.le_of_ble_eq_true rfl) dX0_layDressing_9 (fun u H locs hw hP hD hS => ?_)
  obtain ⟨hG5, hw⟩ := hw
  obtain ⟨v6, f7⟩ := u
  obtain ⟨kV_v6, kF_f7, hIv6, hk0_v6, hk1_v6, hk7_v6, hk8_v6, hk9_v6, hk10_v6, hk31_v6, hk32_v6⟩ := hw
  have hM_v6 : KV [38, 39, 40] v6 v := KV.tr kV_v6 hM_v3 rfl
  have hA_f7 : KF [13, 14, 20, 21, 22] f7 f := KF.tr kF_f7 hA_f4 rfl
  have hP : va_P (dC, dI) vwCl (XW cy x0 x v6 f7) H := hP
  have hD : va_D A (XW cy x0 x v6 f7) := hD
  have hq0_v6 : v6 0 = (v 0) := hk0_v6.trans hq0_v3
  have hq1_v6 : v6 1 = (v 1) := hk1_v6.trans hq1_v3
  have hq7_v6 : v6 7 = (v 7) := hk7_v6.trans hq7_v3
  have hq8_v6 : v6 8 = (v 8) := hk8_v6.trans hq8_v3
  have hq9_v6 : v6 9 = (v 9) := hk9_v6.trans hq9_v3
  have hq10_v6 : v6 10 = (v 10) := hk10_v6.trans hq10_v3
  have hq31_v6 : v6 31 = (v 31) := hk31_v6.trans hq31_v3
  have hq32_v6 : v6 32 = (v 32) := hk32_v6.trans hq32_v3
  refine lv_aload_n hx hb dX0_layDressing_12 rfl (lv_at hl 0 rfl) ?_
  refine lv_iconst (v := 0) hx hb dX0_layDressing_13 (by decide) ?_
  refine va_put (D := (dC, dI)) (ci := 0) (v := .int 0) (ty := tyX0 6) (C := RX0) (T := TX0) (N := 8) hx hb hts inB_0 tyX0 tyX0_ok nmX0 hown hE.1 hP hD hS 32 rfl rfl 6 (by decide) (hts _ k_437) (fun _ h9 => h9) rfl (tyX0_ok 6 (by decide)) rfl rfl (Nat.le_of_ble_eq_true rfl) dX0_layDressing_14 (fun H locs hP hD hS => ?_)
  have hP : va_P (dC, dI) vwCl (XW cy x0 x (upd v6 39 0) f7) H := hP
  have hD : va_D A (XW cy x0 x (upd v6 39 0) f7) := hD
  refine lv_aload_n hx hb dX0_layDressing_17 rfl (lv_at hl 0 rfl) ?_
  refine lv_iconst (v := 0) hx hb dX0_layDressing_18 (by decide) ?_
  refine va_put (D := (dC, dI)) (ci := 0) (v := .int 0) (ty := tyX0 7) (C := RX0) (T := TX0) (N := 8) hx hb hts inB_0 tyX0 tyX0_ok nmX0 hown hE.1 hP hD hS 32 rfl rfl 7 (by decide) (hts _ k_439) (fun _ h9 => h9) rfl (tyX0_ok 7 (by decide)) rfl rfl (Nat.le_of_ble_eq_true rfl) dX0_layDressing_19 (fun H locs hP hD hS => ?_)
  have hP : va_P (dC, dI) vwCl (XW cy x0 x (upd (upd v6 39 0) 40 0) f7) H := hP
  have hD : va_D A (XW cy x0 x (upd (upd v6 39 0) 40 0) f7) := hD
  refine lv_iconst (v := 0) hx hb dX0_layDressing_22 (by decide) ?_
  refine lv_istore_n (lv' := [(1, .int 0), (0, .ref (x 31))]) hx hb dX0_layDressing_23 rfl hl (by decide) rfl (fun ls hl => ?_)
  refine lv_iconst (v := 0) hx hb dX0_layDressing_24 (by decide) ?_
  refine lv_istore_n (lv' := [(2, .int 0), (1, .int 0), (0, .ref (x 31))]) hx hb dX0_layDressing_25 rfl hl (by decide) rfl (fun ls hl => ?_)
  have lp8 : ∀ (n8 : Nat) (l1_8 : Int32) (l2_8 : Int32) (v8 : Nat → Int32) (f8 : Nat → Nat → Int32), XI v8 → v8 0 = (v 0) → v8 1 = (v 1) → v8 7 = (v 7) → v8 8 = (v 8) → v8 9 = (v 9) → v8 10 = (v 10) → v8 31 = (v 31) → v8 32 = (v 32) → ((0 : Int) ≤ l1_8.toInt ∧ l1_8.toInt ≤ 63) → ((0 : Int) ≤ l2_8.toInt ∧ l2_8.toInt ≤ 2147483647) → KV [38, 39, 40] v8 v → KF [13, 14, 20, 21, 22] f8 f → (2147483647 - l2_8.toInt).toNat < n8 → ∀ (H : Heap) (locs : List Loc) (ls : Array Slot), va_P (dC, dI) vwCl (XW cy x0 x v8 f8) H → va_D A (XW cy x0 x v8 f8) → va_S A s.heap H locs → lv_has ls 4 [(2, .int l2_8), (1, .int l1_8), (0, .ref (x 31))] → W p l e { frames := 5, cells := 0, slots := 0, locals := 156 } s m ([.ref (x 31)] : List Value).toArray below meth c H locs 0 0 Q (F0 m 26 ls []) := by
    intro n8
    induction n8 with
    | zero => intro l1_8 l2_8 v8 f8 hIv8 hq0_v8 hq1_v8 hq7_v8 hq8_v8 hq9_v8 hq10_v8 hq31_v8 hq32_v8 hr1_8 hr2_8 hM_v8 hA_f8 hm; exact absurd hm (Nat.not_lt_zero _)
    | succ n8 ih8 =>
      intro l1_8 l2_8 v8 f8 hIv8 hq0_v8 hq1_v8 hq7_v8 hq8_v8 hq9_v8 hq10_v8 hq31_v8 hq32_v8 hr1_8 hr2_8 hM_v8 hA_f8 hm8 H locs ls hP hD hS hl
      refine lv_iload_n hx hb dX0_layDressing_26 rfl (lv_at hl 0 rfl) ?_
      refine lv_aload_n hx hb dX0_layDressing_27 rfl (lv_at hl 2 rfl) ?_
      refine va_get (D := (dC, dI)) (ci := 0) (v := .ref (x 26)) (C := RX0) (T := TX0) (N := 8) hx hb hts inB_0 hown hE.1 hP 32 rfl rfl 0 (by decide) (hts _ k_430) (fun _ h9 => h9) rfl dX0_layDressing_28 ?_
      refine va_getN (D := (dC, dI)) (ci := 7) (v := .int (v8 31)) (C := RX7) (T := TX7) (N := 10) hx hb hts inB_7 hown hE.1 hP 27 rfl rfl 3 (by decide) (va_Nw.use rfl (hE.2 _ k_216)) (fun _ h9 => h9) rfl dX0_layDressing_31 ?_
      refine tI (y := (v 31)) hq31_v8 ?_
      have b31_v : 0 ≤ (v 31).toInt ∧ (v 31).toInt ≤ 6 := XI.b hIv 31 (by decide)
      refine lv_icmp_ge (tgt := 94) hx hb dX0_layDressing_34 (by decide) (fun c9 => ?_) (fun c9 => ?_)
      · skip
        have zc9 : (v 31).toInt ≤ l2_8.toInt := by rw [fa_le] at c9; exact c9
        have rg10 := fb_rng l2_8
        have rg11 := fb_rng (v 31)
        exact ret (v8, f8) _ _ _ _ _ _ ⟨hM_v8, hA_f8, hIv8, hq0_v8, hq1_v8, hq7_v8, hq8_v8, hq9_v8, hq10_v8, hq31_v8, hq32_v8⟩ hP hD hS dX0_layDressing_94 (Nat.le_refl _) (Nat.le_refl _)
      · skip
        have zc9 : ¬ ((v 31).toInt ≤ l2_8.toInt) := by rw [fa_le] at c9; exact c9
        have rg12 := fb_rng l2_8
        have rg13 := fb_rng (v 31)
        refine lv_aload_n hx hb dX0_layDressing_37 rfl (lv_at hl 2 rfl) ?_
        refine lv_iload_n hx hb dX0_layDressing_38 rfl (lv_at hl 0 rfl) ?_
        refine lv_iload_n hx hb dX0_layDressing_39 rfl (lv_at hl 1 rfl) ?_
        refine cbVi (n := 2) (rest := []) hx hb hml hown hts hE hP hD hS hA (sX_X0_firstBest_1 l dC dI cy x0 x l2_8 l1_8 v8 f8 hIv8 ⟨show (0 : Int) ≤ l2_8.toInt by omega, show l2_8.toInt ≤ (5 : Int) by omega⟩ ⟨show (0 : Int) ≤ l1_8.toInt by omega, show l1_8.toInt ≤ (63 : Int) by omega⟩) k_991 k_993 k_25 k_111 k_994 (by decide +kernel) ⟨Nat.le_of_ble_eq_true rfl, Nat.le_of_ble_eq_true rfl⟩ 32 0 rfl rfl (rfl) hl.1 rfl (Nat.le_of_ble_eq_true rfl) dX0_layDressing_40 (fun r14 u H locs hw hP hD hS => ?_)
        refine lv_istore_n (lv' := [(3, .int r14), (2, .int l2_8), (1, .int l1_8), (0, .ref (x 31))]) hx hb dX0_layDressing_43 rfl hl (by decide) rfl (fun ls hl => ?_)
        refine lv_aload_n hx hb dX0_layDressing_44 rfl (lv_at hl 3 rfl) ?_
        refine lv_iload_n hx hb dX0_layDressing_45 rfl (lv_at hl 0 rfl) ?_
        refine cbVv (n := 1) (rest := []) hx hb hml hown hts hE hP hD hS hA (sX_X0_lay_1 l dC dI cy x0 x r14 v8 f8 hIv8 ) k_995 k_997 k_26 k_111 k_998 (by decide +kernel) ⟨Nat.le_of_ble_eq_true rfl, Nat.le_of_ble_eq_true rfl⟩ 32 0 rfl rfl (rfl) hl.1 rfl (Nat.le_of_ble_eq_true rfl) dX0_layDressing_46 (fun u H locs hw hP hD hS => ?_)
        obtain ⟨v15, f16⟩ := u
        obtain ⟨kV_v15, kF_f16, hIv15, hk0_v15, hk1_v15, hk7_v15, hk8_v15, hk9_v15, hk10_v15, hk31_v15, hk32_v15⟩ := hw
        have hM_v15 : KV [38, 39, 40] v15 v := KV.tr kV_v15 hM_v8 rfl
        have hA_f16 : KF [13, 14, 20, 21, 22] f16 f := KF.tr kF_f16 hA_f8 rfl
        have hP : va_P (dC, dI) vwCl (XW cy x0 x v15 f16) H := hP
        have hD : va_D A (XW cy x0 x v15 f16) := hD
        have hq0_v15 : v15 0 = (v 0) := hk0_v15.trans hq0_v8
        have hq1_v15 : v15 1 = (v 1) := hk1_v15.trans hq1_v8
        have hq7_v15 : v15 7 = (v 7) := hk7_v15.trans hq7_v8
        have hq8_v15 : v15 8 = (v 8) := hk8_v15.trans hq8_v8
        have hq9_v15 : v15 9 = (v 9) := hk9_v15.trans hq9_v8
        have hq10_v15 : v15 10 = (v 10) := hk10_v15.trans hq10_v8
        have hq31_v15 : v15 31 = (v 31) := hk31_v15.trans hq31_v8
        have hq32_v15 : v15 32 = (v 32) := hk32_v15.trans hq32_v8
        refine lv_iload_n hx hb dX0_layDressing_49 rfl (lv_at hl 0 rfl) ?_
        refine lv_iconst (v := (-1)) hx hb dX0_layDressing_50 (by decide) ?_
        refine lv_icmp_eq (tgt := 88) hx hb dX0_layDressing_51 (by decide) (fun c17 => ?_) (fun c17 => ?_)
        · skip
          have zc17 : r14.toInt = (-1) := by rw [fa_eq, show ((-1) : Int32).toInt = -1 from by decide] at c17; exact c17
          obtain ⟨t18, et18⟩ : ∃ y : Int32, y = l2_8 + 1 := ⟨_, rfl⟩
          have zt18 : t18.toInt = l2_8.toInt + 1 := by rw [et18]; exact add_i rfl (by decide) (by omega) (by omega)
          refine lv_iinc (v := t18) (lv' := [(2, .int t18), (3, .int r14), (1, .int l1_8), (0, .ref (x 31))]) hx hb dX0_layDressing_88 hl (k := 1) rfl (by rw [et18]; rfl) (by decide) rfl (fun ls hl => ?_)
          refine lv_goto (tgt := 26) hx hb dX0_layDressing_91 (by decide) ?_
          have rg19 := fb_rng l1_8
          have rg20 := fb_rng t18
          exact ih8 l1_8 t18 v15 f16 hIv15 hq0_v15 hq1_v15 hq7_v15 hq8_v15 hq9_v15 hq10_v15 hq31_v15 hq32_v15 ⟨show (0 : Int) ≤ l1_8.toInt by omega, show l1_8.toInt ≤ (63 : Int) by omega⟩ ⟨show (0 : Int) ≤ t18.toInt by omega, show t18.toInt ≤ (2147483647 : Int) by omega⟩ hM_v15 hA_f16 (by show (2147483647 - t18.toInt).toNat < n8; omega) _ _ _ hP hD hS (lv_sub hl [0, 2, 3] rfl)
        · skip
          have zc17 : ¬ (r14.toInt = (-1)) := by rw [fa_eq, show ((-1) : Int32).toInt = -1 from by decide] at c17; exact c17
          refine lv_iload_n hx hb dX0_layDressing_54 rfl (lv_at hl 2 rfl) ?_
          refine lv_iconst (v := 1) hx hb dX0_layDressing_55 (by decide) ?_
          refine lv_iload_n hx hb dX0_layDressing_56 rfl (lv_at hl 0 rfl) ?_
          refine lv_ishl hx hb dX0_layDressing_57 ?_
          refine lv_topi (fun t21 et21 => ?_)
          have zt21 : 1 ≤ t21.toInt ∧ t21.toInt ≤ 32 := by rw [et21]; exact shl1_rng (by omega) (by omega)
          refine lv_ior hx hb dX0_layDressing_58 ?_
          refine lv_topi (fun t22 et22 => ?_)
          have zt22 : 0 ≤ t22.toInt ∧ t22.toInt ≤ 63 := by rw [et22]; exact or_rng (by omega) (by omega) (by omega) (by omega)
          refine lv_istore_n (lv' := [(1, .int t22), (3, .int r14), (2, .int l2_8), (0, .ref (x 31))]) hx hb dX0_layDressing_59 rfl hl (by decide) rfl (fun ls hl => ?_)
          refine lv_aload_n hx hb dX0_layDressing_60 rfl (lv_at hl 3 rfl) ?_
          refine lv_dup hx hb dX0_layDressing_61 rfl ?_
          refine va_get (D := (dC, dI)) (ci := 0) (v := .int (v15 39)) (C := RX0) (T := TX0) (N := 8) hx hb hts inB_0 hown hE.1 hP 32 rfl rfl 6 (by decide) (hts _ k_437) (fun _ h9 => h9) rfl dX0_layDressing_62 ?_
          refine lv_iconst (v := 1) hx hb dX0_layDressing_65 (by decide) ?_
          refine lv_iadd hx hb dX0_layDressing_66 ?_
          refine lv_topi (fun t23 et23 => ?_)
          refine va_put (D := (dC, dI)) (ci := 0) (v := .int t23) (ty := tyX0 6) (C := RX0) (T := TX0) (N := 8) hx hb hts inB_0 tyX0 tyX0_ok nmX0 hown hE.1 hP hD hS 32 rfl rfl 6 (by decide) (hts _ k_437) (fun _ h9 => h9) rfl (tyX0_ok 6 (by decide)) rfl rfl (Nat.le_of_ble_eq_true rfl) dX0_layDressing_67 (fun H locs hP hD hS => ?_)
          have hP : va_P (dC, dI) vwCl (XW cy x0 x (upd v15 39 t23) f16) H := hP
          have hD : va_D A (XW cy x0 x (upd v15 39 t23) f16) := hD
          refine lv_aload_n hx hb dX0_layDressing_70 rfl (lv_at hl 3 rfl) ?_
          refine lv_dup hx hb dX0_layDressing_71 rfl ?_
          refine va_get (D := (dC, dI)) (ci := 0) (v := .int (v15 40)) (C := RX0) (T := TX0) (N := 8) hx hb hts inB_0 hown hE.1 hP 32 rfl rfl 7 (by decide) (hts _ k_439) (fun _ h9 => h9) rfl dX0_layDressing_72 ?_
          refine lv_aload_n hx hb dX0_layDressing_75 rfl (lv_at hl 3 rfl) ?_
          refine va_get (D := (dC, dI)) (ci := 0) (v := .ref (x 21)) (C := RX0) (T := TX0) (N := 8) hx hb hts inB_0 hown hE.1 hP 32 rfl rfl 1 (by decide) (hts _ k_431) (fun _ h9 => h9) rfl dX0_layDressing_76 ?_
          refine lv_iload_n hx hb dX0_layDressing_79 rfl (lv_at hl 2 rfl) ?_
          refine lv_iload_n hx hb dX0_layDressing_80 rfl (lv_at hl 1 rfl) ?_
          refine cbVi (n := 2) (rest := [.int (v15 40), .ref (x 31)]) hx hb hml hown hts hE hP hD hS hA (sX_X1_illness_1 0 l dC dI cy x0 x l2_8 r14 (upd v15 39 t23) f16 (XI.upd (j := 39) (x := t23) hIv15 (rlo _) (rhi _)) ) k_979 k_823 k_824 k_106 k_825 (by decide +kernel) ⟨Nat.le_of_ble_eq_true rfl, Nat.le_of_ble_eq_true rfl⟩ 22 1 rfl rfl (rfl) hl.1 rfl (Nat.le_of_ble_eq_true rfl) dX0_layDressing_81 (fun r24 u H locs hw hP hD hS => ?_)
          obtain ⟨hG25, hw⟩ := hw
          obtain ⟨v26, f27⟩ := u
          obtain ⟨kV_v26, kF_f27, hIv26, hk0_v26, hk1_v26, hk7_v26, hk8_v26, hk9_v26, hk10_v26, hk31_v26, hk32_v26⟩ := hw
          have hM_v26 : KV [38, 39, 40] v26 v := KV.tr kV_v26 (KV.up (j := 39) (x := t23) hM_v15 rfl) rfl
          have hA_f27 : KF [13, 14, 20, 21, 22] f27 f := KF.tr kF_f27 hA_f16 rfl
          have hP : va_P (dC, dI) vwCl (XW cy x0 x v26 f27) H := hP
          have hD : va_D A (XW cy x0 x v26 f27) := hD
          have hq0_v26 : v26 0 = (v 0) := hk0_v26.trans hq0_v15
          have hq1_v26 : v26 1 = (v 1) := hk1_v26.trans hq1_v15
          have hq7_v26 : v26 7 = (v 7) := hk7_v26.trans hq7_v15
          have hq8_v26 : v26 8 = (v 8) := hk8_v26.trans hq8_v15
          have hq9_v26 : v26 9 = (v 9) := hk9_v26.trans hq9_v15
          have hq10_v26 : v26 10 = (v 10) := hk10_v26.trans hq10_v15
          have hq31_v26 : v26 31 = (v 31) := hk31_v26.trans hq31_v15
          have hq32_v26 : v26 32 = (v 32) := hk32_v26.trans hq32_v15
          refine lv_iadd hx hb dX0_layDressing_84 ?_
          refine lv_topi (fun t28 et28 => ?_)
          refine va_put (D := (dC, dI)) (ci := 0) (v := .int t28) (ty := tyX0 7) (C := RX0) (T := TX0) (N := 8) hx hb hts inB_0 tyX0 tyX0_ok nmX0 hown hE.1 hP hD hS 32 rfl rfl 7 (by decide) (hts _ k_439) (fun _ h9 => h9) rfl (tyX0_ok 7 (by decide)) rfl rfl (Nat.le_of_ble_eq_true rfl) dX0_layDressing_85 (fun H locs hP hD hS => ?_)
          have hP : va_P (dC, dI) vwCl (XW cy x0 x (upd v26 40 t28) f27) H := hP
          have hD : va_D A (XW cy x0 x (upd v26 40 t28) f27) := hD
          obtain ⟨t29, et29⟩ : ∃ y : Int32, y = l2_8 + 1 := ⟨_, rfl⟩
          have zt29 : t29.toInt = l2_8.toInt + 1 := by rw [et29]; exact add_i rfl (by decide) (by omega) (by omega)
          refine lv_iinc (v := t29) (lv' := [(2, .int t29), (1, .int t22), (3, .int r14), (0, .ref (x 31))]) hx hb dX0_layDressing_88 hl (k := 2) rfl (by rw [et29]; rfl) (by decide) rfl (fun ls hl => ?_)
          refine lv_goto (tgt := 26) hx hb dX0_layDressing_91 (by decide) ?_
          have rg30 := fb_rng t22
          have rg31 := fb_rng t29
          exact ih8 t22 t29 (upd v26 40 t28) f27 (XI.upd (j := 40) (x := t28) hIv26 (rlo _) (rhi _)) hq0_v26 hq1_v26 hq7_v26 hq8_v26 hq9_v26 hq10_v26 hq31_v26 hq32_v26 ⟨show (0 : Int) ≤ t22.toInt by omega, show t22.toInt ≤ (63 : Int) by omega⟩ ⟨show (0 : Int) ≤ t29.toInt by omega, show t29.toInt ≤ (2147483647 : Int) by omega⟩ (KV.up (j := 40) (x := t28) hM_v26 rfl) hA_f27 (by show (2147483647 - t29.toInt).toNat < n8; omega) _ _ _ hP hD hS (lv_sub hl [0, 1, 3] rfl)
  exact lp8 _ 0 0 (upd (upd v6 39 0) 40 0) f7 (XI.upd (j := 40) (x := 0) (XI.upd (j := 39) (x := 0) hIv6 (rlo _) (rhi _)) (rlo _) (rhi _)) hq0_v6 hq1_v6 hq7_v6 hq8_v6 hq9_v6 hq10_v6 hq31_v6 hq32_v6 ⟨by decide, by decide⟩ ⟨by decide, by decide⟩ (KV.up (j := 40) (x := 0) (KV.up (j := 39) (x := 0) hM_v6 rfl) rfl) hA_f7 (Nat.lt_succ_self _) _ _ _ hP hD hS (lv_sub hl [0, 1, 2] rfl)
set_option maxHeartbeats 4000000 in
set_option maxRecDepth 100000 in
theorem sX_X10_dress_1 (l : Launch) (dC : Nat → ClassId) (dI : Nat → Nat → Nat) (cy : Nat → ClassId) (x0 : Nat) (x : Nat → Nat) (p1 : Int32) (v : Nat → Int32) (f : Nat → Nat → Int32) (hIv : XI v)  : ctI l (dC, dI) cy yX10_dress cX10_dress 2 .int 6 179 0 0 ((Nat → Int32) × (Nat → Nat → Int32)) [.ref x0, .int p1] (XW cy x0 x v f) (fun r u => KV [38, 39, 40] u.1 v ∧ KF [13, 14, 20, 21, 22] u.2 f ∧ XI u.1 ∧ u.1 0 = v 0 ∧ u.1 1 = v 1 ∧ u.1 7 = v 7 ∧ u.1 8 = v 8 ∧ u.1 9 = v 9 ∧ u.1 10 = v 10 ∧ u.1 31 = v 31 ∧ u.1 32 = v 32) (fun u => XW cy x0 x u.1 u.2) := by
  refine ctI_of (by decide) (Nat.le_of_ble_eq_true rfl) (fun p e s m below meth c A ls Q hx hb hml hts hown hE hP hD hA hl ret => ?_)
  have hM_v : KV [38, 39, 40] v v := fun _ _ => rfl
  have hA_f : KF [13, 14, 20, 21, 22] f f := fun _ _ => rfl
  have hown : s.vm.findClass RX10 = some m.cls := hown
  have hS : va_S A s.heap s.heap [] := va_S.rf
  have hl : lv_has ls 2 [(0, .ref x0), (1, .int p1)] := hl
  refine lv_aload_n hx hb dX10_dress_0 rfl (lv_at hl 0 rfl) ?_
  refine va_get (D := (dC, dI)) (ci := 10) (v := .ref (x 31)) (C := RX10) (T := TX10) (N := 10) hx hb hts inB_10 hown hE.1 hP 0 rfl rfl 7 (by decide) (hts _ k_498) (fun _ h9 => h9) rfl dX10_dress_1 ?_
  refine cbVv (n := 0) (rest := []) hx hb hml hown hts hE hP hD hS hA (sX_X0_layDressing_1 l dC dI cy x0 x  v f hIv ) k_971 k_972 k_973 k_111 k_974 (by decide +kernel) ⟨Nat.le_of_ble_eq_true rfl, Nat.le_of_ble_eq_true rfl⟩ 32 0 rfl rfl (rfl) hl.1 rfl (Nat.le_of_ble_eq_true rfl) dX10_dress_4 (fun u H locs hw hP hD hS => ?_)
  obtain ⟨v1, f2⟩ := u
  obtain ⟨kV_v1, kF_f2, hIv1, hk0_v1, hk1_v1, hk7_v1, hk8_v1, hk9_v1, hk10_v1, hk31_v1, hk32_v1⟩ := hw
  have hM_v1 : KV [38, 39, 40] v1 v := KV.tr kV_v1 hM_v rfl
  have hA_f2 : KF [13, 14, 20, 21, 22] f2 f := KF.tr kF_f2 hA_f rfl
  have hP : va_P (dC, dI) vwCl (XW cy x0 x v1 f2) H := hP
  have hD : va_D A (XW cy x0 x v1 f2) := hD
  have hq0_v1 : v1 0 = (v 0) := hk0_v1
  have hq1_v1 : v1 1 = (v 1) := hk1_v1
  have hq7_v1 : v1 7 = (v 7) := hk7_v1
  have hq8_v1 : v1 8 = (v 8) := hk8_v1
  have hq9_v1 : v1 9 = (v 9) := hk9_v1
  have hq10_v1 : v1 10 = (v 10) := hk10_v1
  have hq31_v1 : v1 31 = (v 31) := hk31_v1
  have hq32_v1 : v1 32 = (v 32) := hk32_v1
  refine lv_iload_n hx hb dX10_dress_7 rfl (lv_at hl 1 rfl) ?_
  refine lv_if_ne (tgt := 21) hx hb dX10_dress_8 (by decide) (fun c3 => ?_) (fun c3 => ?_)
  · skip
    have zc3 : ¬ (p1.toInt = 0) := by rw [fa_eq, show (0 : Int32).toInt = 0 from by decide] at c3; exact c3
    refine lv_iload_n hx hb dX10_dress_21 rfl (lv_at hl 1 rfl) ?_
    refine lv_iconst (v := 1) hx hb dX10_dress_22 (by decide) ?_
    refine lv_icmp_ne (tgt := 36) hx hb dX10_dress_23 (by decide) (fun c4 => ?_) (fun c4 => ?_)
    · skip
      have zc4 : ¬ (p1.toInt = 1) := by rw [fa_eq, show (1 : Int32).toInt = 1 from by decide] at c4; exact c4
      refine lv_iconst (v := (-1)) hx hb dX10_dress_36 (by decide) ?_
      exact ret (-1) (v1, f2) _ _ _ _ _ _ rfl ⟨hM_v1, hA_f2, hIv1, hk0_v1, hk1_v1, hk7_v1, hk8_v1, hk9_v1, hk10_v1, hk31_v1, hk32_v1⟩ hP hD hS dX10_dress_37 (Nat.le_refl _) (Nat.le_refl _)
    · skip
      have zc4 : p1.toInt = 1 := by rw [fa_eq, show (1 : Int32).toInt = 1 from by decide] at c4; exact c4
      refine lv_aload_n hx hb dX10_dress_26 rfl (lv_at hl 0 rfl) ?_
      refine va_get (D := (dC, dI)) (ci := 10) (v := .ref (x 31)) (C := RX10) (T := TX10) (N := 10) hx hb hts inB_10 hown hE.1 hP 0 rfl rfl 7 (by decide) (hts _ k_498) (fun _ h9 => h9) rfl dX10_dress_27 ?_
      refine va_getN (D := (dC, dI)) (ci := 0) (v := .int (v1 40)) (C := RX0) (T := TX0) (N := 8) hx hb hts inB_0 hown hE.1 hP 32 rfl rfl 7 (by decide) (va_Nw.use rfl (hE.2 _ k_440)) (fun _ h9 => h9) rfl dX10_dress_30 ?_
      refine lv_goto (tgt := 37) hx hb dX10_dress_33 (by decide) ?_
      exact ret (v1 40) (v1, f2) _ _ _ _ _ _ rfl ⟨hM_v1, hA_f2, hIv1, hk0_v1, hk1_v1, hk7_v1, hk8_v1, hk9_v1, hk10_v1, hk31_v1, hk32_v1⟩ hP hD hS dX10_dress_37 (Nat.le_refl _) (Nat.le_refl _)
  · skip
    have zc3 : p1.toInt = 0 := by rw [fa_eq, show (0 : Int32).toInt = 0 from by decide] at c3; exact c3
    refine lv_aload_n hx hb dX10_dress_11 rfl (lv_at hl 0 rfl) ?_
    refine va_get (D := (dC, dI)) (ci := 10) (v := .ref (x 31)) (C := RX10) (T := TX10) (N := 10) hx hb hts inB_10 hown hE.1 hP 0 rfl rfl 7 (by decide) (hts _ k_498) (fun _ h9 => h9) rfl dX10_dress_12 ?_
    refine va_getN (D := (dC, dI)) (ci := 0) (v := .int (v1 39)) (C := RX0) (T := TX0) (N := 8) hx hb hts inB_0 hown hE.1 hP 32 rfl rfl 6 (by decide) (va_Nw.use rfl (hE.2 _ k_438)) (fun _ h9 => h9) rfl dX10_dress_15 ?_
    refine lv_goto (tgt := 37) hx hb dX10_dress_18 (by decide) ?_
    exact ret (v1 39) (v1, f2) _ _ _ _ _ _ rfl ⟨hM_v1, hA_f2, hIv1, hk0_v1, hk1_v1, hk7_v1, hk8_v1, hk9_v1, hk10_v1, hk31_v1, hk32_v1⟩ hP hD hS dX10_dress_37 (Nat.le_refl _) (Nat.le_refl _)
set_option maxHeartbeats 4000000 in
set_option maxRecDepth 100000 in
theorem sX_X3_sewnFits_1 (l : Launch) (dC : Nat → ClassId) (dI : Nat → Nat → Nat) (cy : Nat → ClassId) (x0 : Nat) (x : Nat → Nat) (p1 : Int32) (p2 : Int32) (p3 : Int32) (p4 : Int32) (v : Nat → Int32) (f : Nat → Nat → Int32) (hIv : XI v)  : ctI l (dC, dI) cy yX3_sewnFits cX3_sewnFits 7 .boolean 3 111 0 0 ((Nat → Int32) × (Nat → Nat → Int32)) [.ref (x 25), .int p1, .int p2, .int p3, .int p4] (XW cy x0 x v f) (fun r u => KV [24, 25] u.1 v ∧ KF [13, 14] u.2 f ∧ XI u.1 ∧ u.1 0 = v 0 ∧ u.1 1 = v 1 ∧ u.1 7 = v 7 ∧ u.1 8 = v 8 ∧ u.1 9 = v 9 ∧ u.1 10 = v 10 ∧ u.1 31 = v 31 ∧ u.1 32 = v 32 ∧ ((r = 1) ∨ (r = 0))) (fun u => XW cy x0 x u.1 u.2) := by
  refine ctI_of (by decide) (Nat.le_of_ble_eq_true rfl) (fun p e s m below meth c A ls Q hx hb hml hts hown hE hP hD hA hl ret => ?_)
  have hM_v : KV [24, 25] v v := fun _ _ => rfl
  have hA_f : KF [13, 14] f f := fun _ _ => rfl
  have hown : s.vm.findClass RX3 = some m.cls := hown
  have hS : va_S A s.heap s.heap [] := va_S.rf
  have hl : lv_has ls 7 [(0, .ref (x 25)), (1, .int p1), (2, .int p2), (3, .int p3), (4, .int p4)] := hl
  refine lv_aload_n hx hb dX3_sewnFits_0 rfl (lv_at hl 0 rfl) ?_
  refine va_get (D := (dC, dI)) (ci := 3) (v := .ref (x 21)) (C := RX3) (T := TX3) (N := 10) hx hb hts inB_3 hown hE.1 hP 26 rfl rfl 1 (by decide) (hts _ k_371) (fun _ h9 => h9) rfl dX3_sewnFits_1 ?_
  refine lv_iconst (v := 0) hx hb dX3_sewnFits_4 (by decide) ?_
  refine lv_iload_n hx hb dX3_sewnFits_5 rfl (lv_at hl 1 rfl) ?_
  refine cbVi (n := 2) (rest := []) hx hb hml hown hts hE hP hD hS hA (sX_X1_part_1 0 l dC dI cy x0 x 0 p1 v f hIv ) k_1012 k_828 k_829 k_106 k_830 (by decide +kernel) ⟨Nat.le_of_ble_eq_true rfl, Nat.le_of_ble_eq_true rfl⟩ 22 1 rfl rfl (rfl) hl.1 rfl (Nat.le_of_ble_eq_true rfl) dX3_sewnFits_6 (fun r1 u H locs hw hP hD hS => ?_)
  have hG2 := hw
  refine lv_iload_n hx hb dX3_sewnFits_9 rfl (lv_at hl 3 rfl) ?_
  refine lv_isub hx hb dX3_sewnFits_10 ?_
  refine lv_topi (fun t3 et3 => ?_)
  refine lv_istore (lv' := [(5, .int t3), (0, .ref (x 25)), (1, .int p1), (2, .int p2), (3, .int p3), (4, .int p4)]) hx hb dX3_sewnFits_11 hl (by decide) rfl (fun ls hl => ?_)
  refine lv_aload_n hx hb dX3_sewnFits_13 rfl (lv_at hl 1 rfl) ?_
  refine va_get (D := (dC, dI)) (ci := 3) (v := .ref (x 21)) (C := RX3) (T := TX3) (N := 10) hx hb hts inB_3 hown hE.1 hP 26 rfl rfl 1 (by decide) (hts _ k_371) (fun _ h9 => h9) rfl dX3_sewnFits_14 ?_
  refine lv_iconst (v := 1) hx hb dX3_sewnFits_17 (by decide) ?_
  refine lv_iload_n hx hb dX3_sewnFits_18 rfl (lv_at hl 2 rfl) ?_
  refine cbVi (n := 2) (rest := []) hx hb hml hown hts hE hP hD hS hA (sX_X1_part_1 0 l dC dI cy x0 x 1 p1 v f hIv ) k_1012 k_828 k_829 k_106 k_830 (by decide +kernel) ⟨Nat.le_of_ble_eq_true rfl, Nat.le_of_ble_eq_true rfl⟩ 22 1 rfl rfl (rfl) hl.1 rfl (Nat.le_of_ble_eq_true rfl) dX3_sewnFits_19 (fun r4 u H locs hw hP hD hS => ?_)
  have hG5 := hw
  refine lv_iload hx hb dX3_sewnFits_22 (lv_at hl 5 rfl) ?_
  refine lv_isub hx hb dX3_sewnFits_24 ?_
  refine lv_topi (fun t6 et6 => ?_)
  refine lv_istore (lv' := [(6, .int t6), (5, .int t3), (0, .ref (x 25)), (1, .int p1), (2, .int p2), (3, .int p3), (4, .int p4)]) hx hb dX3_sewnFits_25 hl (by decide) rfl (fun ls hl => ?_)
  refine lv_iload hx hb dX3_sewnFits_27 (lv_at hl 1 rfl) ?_
  refine lv_if_lt (tgt := 59) hx hb dX3_sewnFits_29 (by decide) (fun c7 => ?_) (fun c7 => ?_)
  · skip
    have zc7 : t3.toInt < 0 := by rw [fa_lt, show (0 : Int32).toInt = 0 from by decide] at c7; exact c7
    refine lv_iconst (v := 0) hx hb dX3_sewnFits_59 (by decide) ?_
    exact ret 0 (v, f) _ _ _ _ _ _ rfl ⟨hM_v, hA_f, hIv, rfl, rfl, rfl, rfl, rfl, rfl, rfl, rfl, (Or.inr rfl)⟩ hP hD hS dX3_sewnFits_60 (Nat.le_refl _) (Nat.le_refl _)
  · skip
    have zc7 : ¬ (t3.toInt < 0) := by rw [fa_lt, show (0 : Int32).toInt = 0 from by decide] at c7; exact c7
    refine lv_iload hx hb dX3_sewnFits_32 (lv_at hl 0 rfl) ?_
    refine lv_if_lt (tgt := 59) hx hb dX3_sewnFits_34 (by decide) (fun c8 => ?_) (fun c8 => ?_)
    · skip
      have zc8 : t6.toInt < 0 := by rw [fa_lt, show (0 : Int32).toInt = 0 from by decide] at c8; exact c8
      refine lv_iconst (v := 0) hx hb dX3_sewnFits_59 (by decide) ?_
      exact ret 0 (v, f) _ _ _ _ _ _ rfl ⟨hM_v, hA_f, hIv, rfl, rfl, rfl, rfl, rfl, rfl, rfl, rfl, (Or.inr rfl)⟩ hP hD hS dX3_sewnFits_60 (Nat.le_refl _) (Nat.le_refl _)
    · skip
      have zc8 : ¬ (t6.toInt < 0) := by rw [fa_lt, show (0 : Int32).toInt = 0 from by decide] at c8; exact c8
      refine lv_iload hx hb dX3_sewnFits_37 (lv_at hl 0 rfl) ?_
      refine lv_bipush (v := 99) hx hb dX3_sewnFits_39 (by decide) ?_
      refine lv_icmp_gt (tgt := 59) hx hb dX3_sewnFits_41 (by decide) (fun c9 => ?_) (fun c9 => ?_)
      · skip
        have zc9 : 99 < t6.toInt := by rw [fa_lt, show (99 : Int32).toInt = 99 from by decide] at c9; exact c9
        refine lv_iconst (v := 0) hx hb dX3_sewnFits_59 (by decide) ?_
        exact ret 0 (v, f) _ _ _ _ _ _ rfl ⟨hM_v, hA_f, hIv, rfl, rfl, rfl, rfl, rfl, rfl, rfl, rfl, (Or.inr rfl)⟩ hP hD hS dX3_sewnFits_60 (Nat.le_refl _) (Nat.le_refl _)
      · skip
        have zc9 : ¬ (99 < t6.toInt) := by rw [fa_lt, show (99 : Int32).toInt = 99 from by decide] at c9; exact c9
        refine lv_iload hx hb dX3_sewnFits_44 (lv_at hl 6 rfl) ?_
        refine lv_ineg hx hb dX3_sewnFits_46 ?_
        refine lv_topi (fun t10 et10 => ?_)
        refine lv_aload_n hx hb dX3_sewnFits_47 rfl (lv_at hl 2 rfl) ?_
        refine va_get (D := (dC, dI)) (ci := 3) (v := .ref (x 21)) (C := RX3) (T := TX3) (N := 10) hx hb hts inB_3 hown hE.1 hP 26 rfl rfl 1 (by decide) (hts _ k_371) (fun _ h9 => h9) rfl dX3_sewnFits_48 ?_
        refine lv_iconst (v := 2) hx hb dX3_sewnFits_51 (by decide) ?_
        refine lv_iload_n hx hb dX3_sewnFits_52 rfl (lv_at hl 3 rfl) ?_
        refine cbVi (n := 2) (rest := [.int t10]) hx hb hml hown hts hE hP hD hS hA (sX_X1_part_1 0 l dC dI cy x0 x 2 p1 v f hIv ) k_1012 k_828 k_829 k_106 k_830 (by decide +kernel) ⟨Nat.le_of_ble_eq_true rfl, Nat.le_of_ble_eq_true rfl⟩ 22 1 rfl rfl (rfl) hl.1 rfl (Nat.le_of_ble_eq_true rfl) dX3_sewnFits_53 (fun r11 u H locs hw hP hD hS => ?_)
        have hG12 := hw
        refine lv_icmp_le (tgt := 61) hx hb dX3_sewnFits_56 (by decide) (fun c13 => ?_) (fun c13 => ?_)
        · skip
          have zc13 : t10.toInt ≤ r11.toInt := by rw [fa_le] at c13; exact c13
          have rg14 := fb_rng t10
          have rg15 := fb_rng r11
          refine lv_aload_n hx hb dX3_sewnFits_61 rfl (lv_at hl 2 rfl) ?_
          refine lv_iload_n hx hb dX3_sewnFits_62 rfl (lv_at hl 5 rfl) ?_
          refine va_put (D := (dC, dI)) (ci := 3) (v := .int p3) (ty := tyX3 3) (C := RX3) (T := TX3) (N := 10) hx hb hts inB_3 tyX3 tyX3_ok nmX3 hown hE.1 hP hD hS 26 rfl rfl 3 (by decide) (hts _ k_373) (fun _ h9 => h9) rfl (tyX3_ok 3 (by decide)) rfl rfl (Nat.le_of_ble_eq_true rfl) dX3_sewnFits_63 (fun H locs hP hD hS => ?_)
          have hP : va_P (dC, dI) vwCl (XW cy x0 x (upd v 24 p3) f) H := hP
          have hD : va_D A (XW cy x0 x (upd v 24 p3) f) := hD
          refine lv_aload_n hx hb dX3_sewnFits_66 rfl (lv_at hl 2 rfl) ?_
          refine lv_iload hx hb dX3_sewnFits_67 (lv_at hl 6 rfl) ?_
          refine va_put (D := (dC, dI)) (ci := 3) (v := .int p4) (ty := tyX3 4) (C := RX3) (T := TX3) (N := 10) hx hb hts inB_3 tyX3 tyX3_ok nmX3 hown hE.1 hP hD hS 26 rfl rfl 4 (by decide) (hts _ k_375) (fun _ h9 => h9) rfl (tyX3_ok 4 (by decide)) rfl rfl (Nat.le_of_ble_eq_true rfl) dX3_sewnFits_69 (fun H locs hP hD hS => ?_)
          have hP : va_P (dC, dI) vwCl (XW cy x0 x (upd (upd v 24 p3) 25 p4) f) H := hP
          have hD : va_D A (XW cy x0 x (upd (upd v 24 p3) 25 p4) f) := hD
          refine lv_aload_n hx hb dX3_sewnFits_72 rfl (lv_at hl 2 rfl) ?_
          refine va_get (D := (dC, dI)) (ci := 3) (v := .ref (x 26)) (C := RX3) (T := TX3) (N := 10) hx hb hts inB_3 hown hE.1 hP 26 rfl rfl 0 (by decide) (hts _ k_370) (fun _ h9 => h9) rfl dX3_sewnFits_73 ?_
          refine va_getN (D := (dC, dI)) (ci := 7) (v := .ref (x 15)) (C := RX7) (T := TX7) (N := 10) hx hb hts inB_7 hown hE.1 hP 27 rfl rfl 2 (by decide) (va_Nw.use rfl (hE.2 _ k_207)) (fun _ h9 => h9) rfl dX3_sewnFits_76 ?_
          refine lv_aload_n hx hb dX3_sewnFits_79 rfl (lv_at hl 2 rfl) ?_
          refine va_get (D := (dC, dI)) (ci := 3) (v := .ref (x 26)) (C := RX3) (T := TX3) (N := 10) hx hb hts inB_3 hown hE.1 hP 26 rfl rfl 0 (by decide) (hts _ k_370) (fun _ h9 => h9) rfl dX3_sewnFits_80 ?_
          refine lv_iconst (v := 0) hx hb dX3_sewnFits_83 (by decide) ?_
          refine lv_iload_n hx hb dX3_sewnFits_84 rfl (lv_at hl 4 rfl) ?_
          refine cbVi (n := 2) (rest := [.ref (x 15)]) hx hb hml hown hts hE hP hD hS hA (sX_X7_manPart_1 0 l dC dI cy x0 x 0 p2 (upd (upd v 24 p3) 25 p4) f (XI.upd (j := 25) (x := p4) (XI.upd (j := 24) (x := p3) hIv (rlo _) (rhi _)) (rlo _) (rhi _)) ) k_1013 k_303 k_304 k_104 k_305 (by decide +kernel) ⟨Nat.le_of_ble_eq_true rfl, Nat.le_of_ble_eq_true rfl⟩ 27 7 rfl rfl (rfl) hl.1 rfl (Nat.le_of_ble_eq_true rfl) dX3_sewnFits_85 (fun r16 u H locs hw hP hD hS => ?_)
          have hG17 := hw
          refine lv_aload_n hx hb dX3_sewnFits_88 rfl (lv_at hl 2 rfl) ?_
          refine va_get (D := (dC, dI)) (ci := 3) (v := .ref (x 21)) (C := RX3) (T := TX3) (N := 10) hx hb hts inB_3 hown hE.1 hP 26 rfl rfl 1 (by decide) (hts _ k_371) (fun _ h9 => h9) rfl dX3_sewnFits_89 ?_
          refine lv_iload_n hx hb dX3_sewnFits_92 rfl (lv_at hl 4 rfl) ?_
          refine cbVi (n := 1) (rest := [.int r16, .ref (x 15)]) hx hb hml hown hts hE hP hD hS hA (sX_X1_manWide_1 0 l dC dI cy x0 x p2 (upd (upd v 24 p3) 25 p4) f (XI.upd (j := 25) (x := p4) (XI.upd (j := 24) (x := p3) hIv (rlo _) (rhi _)) (rlo _) (rhi _)) ) k_1014 k_805 k_806 k_106 k_807 (by decide +kernel) ⟨Nat.le_of_ble_eq_true rfl, Nat.le_of_ble_eq_true rfl⟩ 22 1 rfl rfl (rfl) hl.1 rfl (Nat.le_of_ble_eq_true rfl) dX3_sewnFits_93 (fun r18 u H locs hw hP hD hS => ?_)
          have hG19 := hw
          refine lv_iload hx hb dX3_sewnFits_96 (lv_at hl 1 rfl) ?_
          refine lv_iload hx hb dX3_sewnFits_98 (lv_at hl 0 rfl) ?_
          refine lv_aload_n hx hb dX3_sewnFits_100 rfl (lv_at hl 2 rfl) ?_
          refine va_get (D := (dC, dI)) (ci := 3) (v := .ref (x 21)) (C := RX3) (T := TX3) (N := 10) hx hb hts inB_3 hown hE.1 hP 26 rfl rfl 1 (by decide) (hts _ k_371) (fun _ h9 => h9) rfl dX3_sewnFits_101 ?_
          refine lv_iconst (v := 3) hx hb dX3_sewnFits_104 (by decide) ?_
          refine lv_iload_n hx hb dX3_sewnFits_105 rfl (lv_at hl 3 rfl) ?_
          refine cbVi (n := 2) (rest := [.int t6, .int t3, .int r18, .int r16, .ref (x 15)]) hx hb hml hown hts hE hP hD hS hA (sX_X1_part_1 0 l dC dI cy x0 x 3 p1 (upd (upd v 24 p3) 25 p4) f (XI.upd (j := 25) (x := p4) (XI.upd (j := 24) (x := p3) hIv (rlo _) (rhi _)) (rlo _) (rhi _)) ) k_1012 k_828 k_829 k_106 k_830 (by decide +kernel) ⟨Nat.le_of_ble_eq_true rfl, Nat.le_of_ble_eq_true rfl⟩ 22 1 rfl rfl (rfl) hl.1 rfl (Nat.le_of_ble_eq_true rfl) dX3_sewnFits_106 (fun r20 u H locs hw hP hD hS => ?_)
          have hG21 := hw
          refine lv_aload_n hx hb dX3_sewnFits_109 rfl (lv_at hl 2 rfl) ?_
          refine va_get (D := (dC, dI)) (ci := 3) (v := .ref (x 21)) (C := RX3) (T := TX3) (N := 10) hx hb hts inB_3 hown hE.1 hP 26 rfl rfl 1 (by decide) (hts _ k_371) (fun _ h9 => h9) rfl dX3_sewnFits_110 ?_
          refine cbVi (n := 0) (rest := [.int r20, .int t6, .int t3, .int r18, .int r16, .ref (x 15)]) hx hb hml hown hts hE hP hD hS hA (sX_X1_today_1 0 l dC dI cy x0 x  (upd (upd v 24 p3) 25 p4) f (XI.upd (j := 25) (x := p4) (XI.upd (j := 24) (x := p3) hIv (rlo _) (rhi _)) (rlo _) (rhi _)) ) k_1015 k_832 k_833 k_106 k_834 (by decide +kernel) ⟨Nat.le_of_ble_eq_true rfl, Nat.le_of_ble_eq_true rfl⟩ 22 1 rfl rfl (rfl) hl.1 rfl (Nat.le_of_ble_eq_true rfl) dX3_sewnFits_113 (fun r22 u H locs hw hP hD hS => ?_)
          have hG23 := hw
          refine cbVi (n := 6) (rest := []) hx hb hml hown hts hE hP hD hS hA (sX_X4_worth_1 0 l dC dI cy x0 x r16 r18 t3 t6 r20 r22 (upd (upd v 24 p3) 25 p4) f (XI.upd (j := 25) (x := p4) (XI.upd (j := 24) (x := p3) hIv (rlo _) (rhi _)) (rlo _) (rhi _)) ) k_1016 k_836 k_837 k_105 k_838 (by decide +kernel) ⟨Nat.le_of_ble_eq_true rfl, Nat.le_of_ble_eq_true rfl⟩ 16 4 rfl rfl (rfl) hl.1 rfl (Nat.le_of_ble_eq_true rfl) dX3_sewnFits_116 (fun r24 u H locs hw hP hD hS => ?_)
          obtain ⟨hG25, hw⟩ := hw
          obtain ⟨v26, f27⟩ := u
          obtain ⟨kV_v26, kF_f27, hIv26, hk0_v26, hk1_v26, hk7_v26, hk8_v26, hk9_v26, hk10_v26, hk31_v26, hk32_v26⟩ := hw
          have hM_v26 : KV [24, 25] v26 v := KV.tr kV_v26 (KV.up (j := 25) (x := p4) (KV.up (j := 24) (x := p3) hM_v rfl) rfl) rfl
          have hA_f27 : KF [13, 14] f27 f := KF.tr kF_f27 hA_f rfl
          have hP : va_P (dC, dI) vwCl (XW cy x0 x v26 f27) H := hP
          have hD : va_D A (XW cy x0 x v26 f27) := hD
          have hq0_v26 : v26 0 = (v 0) := hk0_v26
          have hq1_v26 : v26 1 = (v 1) := hk1_v26
          have hq7_v26 : v26 7 = (v 7) := hk7_v26
          have hq8_v26 : v26 8 = (v 8) := hk8_v26
          have hq9_v26 : v26 9 = (v 9) := hk9_v26
          have hq10_v26 : v26 10 = (v 10) := hk10_v26
          have hq31_v26 : v26 31 = (v 31) := hk31_v26
          have hq32_v26 : v26 32 = (v 32) := hk32_v26
          refine lv_aload_n hx hb dX3_sewnFits_119 rfl (lv_at hl 2 rfl) ?_
          refine va_get (D := (dC, dI)) (ci := 3) (v := .ref (x 26)) (C := RX3) (T := TX3) (N := 10) hx hb hts inB_3 hown hE.1 hP 26 rfl rfl 0 (by decide) (hts _ k_370) (fun _ h9 => h9) rfl dX3_sewnFits_120 ?_
          refine va_getN (D := (dC, dI)) (ci := 7) (v := .int (v26 33)) (C := RX7) (T := TX7) (N := 10) hx hb hts inB_7 hown hE.1 hP 27 rfl rfl 5 (by decide) (va_Nw.use rfl (hE.2 _ k_230)) (fun _ h9 => h9) rfl dX3_sewnFits_123 ?_
          refine lv_icmp_gt (tgt := 133) hx hb dX3_sewnFits_126 (by decide) (fun c28 => ?_) (fun c28 => ?_)
          · skip
            have zc28 : (v26 33).toInt < r24.toInt := by rw [fa_lt] at c28; exact c28
            have rg29 := fb_rng r24
            have rg30 := fb_rng (v26 33)
            refine lv_iconst (v := 0) hx hb dX3_sewnFits_133 (by decide) ?_
            exact ret 0 (v26, f27) _ _ _ _ _ _ rfl ⟨hM_v26, hA_f27, hIv26, hk0_v26, hk1_v26, hk7_v26, hk8_v26, hk9_v26, hk10_v26, hk31_v26, hk32_v26, (Or.inr rfl)⟩ hP hD hS dX3_sewnFits_134 (Nat.le_refl _) (Nat.le_refl _)
          · skip
            have zc28 : ¬ ((v26 33).toInt < r24.toInt) := by rw [fa_lt] at c28; exact c28
            have rg31 := fb_rng r24
            have rg32 := fb_rng (v26 33)
            refine lv_iconst (v := 1) hx hb dX3_sewnFits_129 (by decide) ?_
            refine lv_goto (tgt := 134) hx hb dX3_sewnFits_130 (by decide) ?_
            exact ret 1 (v26, f27) _ _ _ _ _ _ rfl ⟨hM_v26, hA_f27, hIv26, hk0_v26, hk1_v26, hk7_v26, hk8_v26, hk9_v26, hk10_v26, hk31_v26, hk32_v26, (Or.inl rfl)⟩ hP hD hS dX3_sewnFits_134 (Nat.le_refl _) (Nat.le_refl _)
        · skip
          have zc13 : ¬ (t10.toInt ≤ r11.toInt) := by rw [fa_le] at c13; exact c13
          have rg33 := fb_rng t10
          have rg34 := fb_rng r11
          refine lv_iconst (v := 0) hx hb dX3_sewnFits_59 (by decide) ?_
          exact ret 0 (v, f) _ _ _ _ _ _ rfl ⟨hM_v, hA_f, hIv, rfl, rfl, rfl, rfl, rfl, rfl, rfl, rfl, (Or.inr rfl)⟩ hP hD hS dX3_sewnFits_60 (Nat.le_refl _) (Nat.le_refl _)
set_option maxHeartbeats 4000000 in
set_option maxRecDepth 100000 in
theorem sX_X3_findSewing_1 (l : Launch) (dC : Nat → ClassId) (dI : Nat → Nat → Nat) (cy : Nat → ClassId) (x0 : Nat) (x : Nat → Nat) (p1 : Int32) (p2 : Int32) (v : Nat → Int32) (f : Nat → Nat → Int32) (hIv : XI v)  : ctI l (dC, dI) cy yX3_findSewing cX3_findSewing 6 .boolean 4 137 0 0 ((Nat → Int32) × (Nat → Nat → Int32)) [.ref (x 25), .int p1, .int p2] (XW cy x0 x v f) (fun r u => KV [24, 25] u.1 v ∧ KF [13, 14] u.2 f ∧ XI u.1 ∧ u.1 0 = v 0 ∧ u.1 1 = v 1 ∧ u.1 7 = v 7 ∧ u.1 8 = v 8 ∧ u.1 9 = v 9 ∧ u.1 10 = v 10 ∧ u.1 31 = v 31 ∧ u.1 32 = v 32 ∧ ((r = 1) ∨ (r = 0))) (fun u => XW cy x0 x u.1 u.2) := by
  refine ctI_of (by decide) (Nat.le_of_ble_eq_true rfl) (fun p e s m below meth c A ls Q hx hb hml hts hown hE hP hD hA hl ret => ?_)
  have hM_v : KV [24, 25] v v := fun _ _ => rfl
  have hA_f : KF [13, 14] f f := fun _ _ => rfl
  have hown : s.vm.findClass RX3 = some m.cls := hown
  have hS : va_S A s.heap s.heap [] := va_S.rf
  have hl : lv_has ls 6 [(0, .ref (x 25)), (1, .int p1), (2, .int p2)] := hl
  refine lv_iconst (v := 0) hx hb dX3_findSewing_0 (by decide) ?_
  refine lv_istore_n (lv' := [(3, .int 0), (0, .ref (x 25)), (1, .int p1), (2, .int p2)]) hx hb dX3_findSewing_1 rfl hl (by decide) rfl (fun ls hl => ?_)
  have lp1 : ∀ (n1 : Nat) (l3_1 : Int32) (v1 : Nat → Int32) (f1 : Nat → Nat → Int32), XI v1 → v1 0 = (v 0) → v1 1 = (v 1) → v1 7 = (v 7) → v1 8 = (v 8) → v1 9 = (v 9) → v1 10 = (v 10) → v1 31 = (v 31) → v1 32 = (v 32) → ((0 : Int) ≤ l3_1.toInt ∧ l3_1.toInt ≤ 2147483647) → KV [24, 25] v1 v → KF [13, 14] f1 f → (2147483647 - l3_1.toInt).toNat < n1 → ∀ (H : Heap) (locs : List Loc) (ls : Array Slot), va_P (dC, dI) vwCl (XW cy x0 x v1 f1) H → va_D A (XW cy x0 x v1 f1) → va_S A s.heap H locs → lv_has ls 6 [(3, .int l3_1), (0, .ref (x 25)), (1, .int p1), (2, .int p2)] → W p l e { frames := 4, cells := 0, slots := 0, locals := 137 } s m ([.ref (x 25), .int p1, .int p2] : List Value).toArray below meth c H locs 0 0 Q (F0 m 2 ls []) := by
    intro n1
    induction n1 with
    | zero => intro l3_1 v1 f1 hIv1 hq0_v1 hq1_v1 hq7_v1 hq8_v1 hq9_v1 hq10_v1 hq31_v1 hq32_v1 hr3_1 hM_v1 hA_f1 hm; exact absurd hm (Nat.not_lt_zero _)
    | succ n1 ih1 =>
      intro l3_1 v1 f1 hIv1 hq0_v1 hq1_v1 hq7_v1 hq8_v1 hq9_v1 hq10_v1 hq31_v1 hq32_v1 hr3_1 hM_v1 hA_f1 hm1 H locs ls hP hD hS hl
      refine lv_iload_n hx hb dX3_findSewing_2 rfl (lv_at hl 0 rfl) ?_
      refine lv_bipush (v := 40) hx hb dX3_findSewing_3 (by decide) ?_
      refine lv_icmp_gt (tgt := 78) hx hb dX3_findSewing_5 (by decide) (fun c2 => ?_) (fun c2 => ?_)
      · skip
        have zc2 : 40 < l3_1.toInt := by rw [fa_lt, show (40 : Int32).toInt = 40 from by decide] at c2; exact c2
        refine lv_iconst (v := 0) hx hb dX3_findSewing_78 (by decide) ?_
        exact ret 0 (v1, f1) _ _ _ _ _ _ rfl ⟨hM_v1, hA_f1, hIv1, (show v1 0 = v 0 from hq0_v1), (show v1 1 = v 1 from hq1_v1), (show v1 7 = v 7 from hq7_v1), (show v1 8 = v 8 from hq8_v1), (show v1 9 = v 9 from hq9_v1), (show v1 10 = v 10 from hq10_v1), (show v1 31 = v 31 from hq31_v1), (show v1 32 = v 32 from hq32_v1), (Or.inr rfl)⟩ hP hD hS dX3_findSewing_79 (Nat.le_refl _) (Nat.le_refl _)
      · skip
        have zc2 : ¬ (40 < l3_1.toInt) := by rw [fa_lt, show (40 : Int32).toInt = 40 from by decide] at c2; exact c2
        refine lv_iconst (v := 0) hx hb dX3_findSewing_8 (by decide) ?_
        refine lv_iload_n hx hb dX3_findSewing_9 rfl (lv_at hl 0 rfl) ?_
        refine lv_bipush (v := 20) hx hb dX3_findSewing_10 (by decide) ?_
        refine lv_isub hx hb dX3_findSewing_12 ?_
        refine lv_topi (fun t3 et3 => ?_)
        have rg4 := fb_rng l3_1
        have zt3 : t3.toInt = l3_1.toInt - 20 := by rw [et3]; exact sub_i rfl (by decide) (by omega) (by omega)
        refine va_mmax hx hb (by rw [hml]; exact hl.1.symm) hown (hts _ k_1007) (hts _ k_640) (hts _ k_119) (hts _ k_641) (Nat.le_of_ble_eq_true rfl) (Nat.le_of_ble_eq_true rfl) (Nat.le_of_ble_eq_true rfl) (Nat.le_of_ble_eq_true rfl) dX3_findSewing_13 ?_
        refine lv_topi (fun t5 et5 => ?_)
        have zt5 : t5.toInt = max (0) (t3.toInt) := by rw [et5]; exact mmax_i (by decide) rfl
        refine lv_istore (lv' := [(4, .int t5), (3, .int l3_1), (0, .ref (x 25)), (1, .int p1), (2, .int p2)]) hx hb dX3_findSewing_16 hl (by decide) rfl (fun ls hl => ?_)
        have lp6 : ∀ (n6 : Nat) (l4_6 : Int32) (v6 : Nat → Int32) (f6 : Nat → Nat → Int32), XI v6 → v6 0 = (v 0) → v6 1 = (v 1) → v6 7 = (v 7) → v6 8 = (v 8) → v6 9 = (v 9) → v6 10 = (v 10) → v6 31 = (v 31) → v6 32 = (v 32) → ((0 : Int) ≤ l4_6.toInt ∧ l4_6.toInt ≤ 2147483647) → KV [24, 25] v6 v → KF [13, 14] f6 f → (2147483647 - l4_6.toInt).toNat < n6 → ∀ (H : Heap) (locs : List Loc) (ls : Array Slot), va_P (dC, dI) vwCl (XW cy x0 x v6 f6) H → va_D A (XW cy x0 x v6 f6) → va_S A s.heap H locs → lv_has ls 6 [(4, .int l4_6), (3, .int l3_1), (0, .ref (x 25)), (1, .int p1), (2, .int p2)] → W p l e { frames := 4, cells := 0, slots := 0, locals := 137 } s m ([.ref (x 25), .int p1, .int p2] : List Value).toArray below meth c H locs 0 0 Q (F0 m 18 ls []) := by
          intro n6
          induction n6 with
          | zero => intro l4_6 v6 f6 hIv6 hq0_v6 hq1_v6 hq7_v6 hq8_v6 hq9_v6 hq10_v6 hq31_v6 hq32_v6 hr4_6 hM_v6 hA_f6 hm; exact absurd hm (Nat.not_lt_zero _)
          | succ n6 ih6 =>
            intro l4_6 v6 f6 hIv6 hq0_v6 hq1_v6 hq7_v6 hq8_v6 hq9_v6 hq10_v6 hq31_v6 hq32_v6 hr4_6 hM_v6 hA_f6 hm6 H locs ls hP hD hS hl
            refine lv_iload hx hb dX3_findSewing_18 (lv_at hl 0 rfl) ?_
            refine lv_iload_n hx hb dX3_findSewing_20 rfl (lv_at hl 1 rfl) ?_
            refine lv_icmp_gt (tgt := 72) hx hb dX3_findSewing_21 (by decide) (fun c7 => ?_) (fun c7 => ?_)
            · skip
              have zc7 : l3_1.toInt < l4_6.toInt := by rw [fa_lt] at c7; exact c7
              have rg8 := fb_rng l4_6
              obtain ⟨t9, et9⟩ : ∃ y : Int32, y = l3_1 + 1 := ⟨_, rfl⟩
              have zt9 : t9.toInt = l3_1.toInt + 1 := by rw [et9]; exact add_i rfl (by decide) (by omega) (by omega)
              refine lv_iinc (v := t9) (lv' := [(3, .int t9), (4, .int l4_6), (0, .ref (x 25)), (1, .int p1), (2, .int p2)]) hx hb dX3_findSewing_72 hl (k := 1) rfl (by rw [et9]; rfl) (by decide) rfl (fun ls hl => ?_)
              refine lv_goto (tgt := 2) hx hb dX3_findSewing_75 (by decide) ?_
              have rg10 := fb_rng t9
              exact ih1 t9 v6 f6 hIv6 hq0_v6 hq1_v6 hq7_v6 hq8_v6 hq9_v6 hq10_v6 hq31_v6 hq32_v6 ⟨show (0 : Int) ≤ t9.toInt by omega, show t9.toInt ≤ (2147483647 : Int) by omega⟩ hM_v6 hA_f6 (by show (2147483647 - t9.toInt).toNat < n1; omega) _ _ _ hP hD hS (lv_sub hl [0, 2, 3, 4] rfl)
            · skip
              have zc7 : ¬ (l3_1.toInt < l4_6.toInt) := by rw [fa_lt] at c7; exact c7
              have rg11 := fb_rng l4_6
              refine lv_iload hx hb dX3_findSewing_24 (lv_at hl 0 rfl) ?_
              refine lv_bipush (v := 20) hx hb dX3_findSewing_26 (by decide) ?_
              refine lv_icmp_gt (tgt := 72) hx hb dX3_findSewing_28 (by decide) (fun c12 => ?_) (fun c12 => ?_)
              · skip
                have zc12 : 20 < l4_6.toInt := by rw [fa_lt, show (20 : Int32).toInt = 20 from by decide] at c12; exact c12
                obtain ⟨t13, et13⟩ : ∃ y : Int32, y = l3_1 + 1 := ⟨_, rfl⟩
                have zt13 : t13.toInt = l3_1.toInt + 1 := by rw [et13]; exact add_i rfl (by decide) (by omega) (by omega)
                refine lv_iinc (v := t13) (lv' := [(3, .int t13), (4, .int l4_6), (0, .ref (x 25)), (1, .int p1), (2, .int p2)]) hx hb dX3_findSewing_72 hl (k := 1) rfl (by rw [et13]; rfl) (by decide) rfl (fun ls hl => ?_)
                refine lv_goto (tgt := 2) hx hb dX3_findSewing_75 (by decide) ?_
                have rg14 := fb_rng t13
                exact ih1 t13 v6 f6 hIv6 hq0_v6 hq1_v6 hq7_v6 hq8_v6 hq9_v6 hq10_v6 hq31_v6 hq32_v6 ⟨show (0 : Int) ≤ t13.toInt by omega, show t13.toInt ≤ (2147483647 : Int) by omega⟩ hM_v6 hA_f6 (by show (2147483647 - t13.toInt).toNat < n1; omega) _ _ _ hP hD hS (lv_sub hl [0, 2, 3, 4] rfl)
              · skip
                have zc12 : ¬ (20 < l4_6.toInt) := by rw [fa_lt, show (20 : Int32).toInt = 20 from by decide] at c12; exact c12
                refine lv_iload_n hx hb dX3_findSewing_31 rfl (lv_at hl 1 rfl) ?_
                refine lv_iload hx hb dX3_findSewing_32 (lv_at hl 0 rfl) ?_
                refine lv_isub hx hb dX3_findSewing_34 ?_
                refine lv_topi (fun t15 et15 => ?_)
                have zt15 : t15.toInt = l3_1.toInt - l4_6.toInt := by rw [et15]; exact sub_i rfl rfl (by omega) (by omega)
                refine lv_istore (lv' := [(5, .int t15), (4, .int l4_6), (3, .int l3_1), (0, .ref (x 25)), (1, .int p1), (2, .int p2)]) hx hb dX3_findSewing_35 hl (by decide) rfl (fun ls hl => ?_)
                refine lv_aload_n hx hb dX3_findSewing_37 rfl (lv_at hl 3 rfl) ?_
                refine lv_iload_n hx hb dX3_findSewing_38 rfl (lv_at hl 4 rfl) ?_
                refine lv_iload_n hx hb dX3_findSewing_39 rfl (lv_at hl 5 rfl) ?_
                refine lv_iload hx hb dX3_findSewing_40 (lv_at hl 1 rfl) ?_
                refine lv_iload hx hb dX3_findSewing_42 (lv_at hl 0 rfl) ?_
                refine cbVi (n := 4) (rest := []) hx hb hml hown hts hE hP hD hS hA (sX_X3_sewnFits_1 l dC dI cy x0 x p1 p2 l4_6 t15 v6 f6 hIv6 ) k_1008 k_1010 k_27 k_109 k_1011 (by decide +kernel) ⟨Nat.le_of_ble_eq_true rfl, Nat.le_of_ble_eq_true rfl⟩ 26 3 rfl rfl (rfl) hl.1 rfl (Nat.le_of_ble_eq_true rfl) dX3_findSewing_44 (fun r16 u H locs hw hP hD hS => ?_)
                obtain ⟨v17, f18⟩ := u
                obtain ⟨kV_v17, kF_f18, hIv17, hk0_v17, hk1_v17, hk7_v17, hk8_v17, hk9_v17, hk10_v17, hk31_v17, hk32_v17, hw⟩ := hw
                have hM_v17 : KV [24, 25] v17 v := KV.tr kV_v17 hM_v6 rfl
                have hA_f18 : KF [13, 14] f18 f := KF.tr kF_f18 hA_f6 rfl
                have hP : va_P (dC, dI) vwCl (XW cy x0 x v17 f18) H := hP
                have hD : va_D A (XW cy x0 x v17 f18) := hD
                have hq0_v17 : v17 0 = (v 0) := hk0_v17.trans hq0_v6
                have hq1_v17 : v17 1 = (v 1) := hk1_v17.trans hq1_v6
                have hq7_v17 : v17 7 = (v 7) := hk7_v17.trans hq7_v6
                have hq8_v17 : v17 8 = (v 8) := hk8_v17.trans hq8_v6
                have hq9_v17 : v17 9 = (v 9) := hk9_v17.trans hq9_v6
                have hq10_v17 : v17 10 = (v 10) := hk10_v17.trans hq10_v6
                have hq31_v17 : v17 31 = (v 31) := hk31_v17.trans hq31_v6
                have hq32_v17 : v17 32 = (v 32) := hk32_v17.trans hq32_v6
                rcases hw with ⟨g19⟩ | ⟨g19⟩
                · skip
                  subst g19
                  refine lv_if_ne (tgt := 64) hx hb dX3_findSewing_47 (by decide) (fun _ => ?_) (fun c0 => absurd c0 (by decide))
                  refine lv_iconst (v := 1) hx hb dX3_findSewing_64 (by decide) ?_
                  exact ret 1 (v17, f18) _ _ _ _ _ _ rfl ⟨hM_v17, hA_f18, hIv17, (hk0_v17.trans hq0_v6), (hk1_v17.trans hq1_v6), (hk7_v17.trans hq7_v6), (hk8_v17.trans hq8_v6), (hk9_v17.trans hq9_v6), (hk10_v17.trans hq10_v6), (hk31_v17.trans hq31_v6), (hk32_v17.trans hq32_v6), (Or.inl rfl)⟩ hP hD hS dX3_findSewing_65 (Nat.le_refl _) (Nat.le_refl _)
                · skip
                  subst g19
                  refine lv_if_ne (tgt := 64) hx hb dX3_findSewing_47 (by decide) (fun c0 => absurd (by decide) c0) (fun _ => ?_)
                  refine lv_aload_n hx hb dX3_findSewing_50 rfl (lv_at hl 3 rfl) ?_
                  refine lv_iload_n hx hb dX3_findSewing_51 rfl (lv_at hl 4 rfl) ?_
                  refine lv_iload_n hx hb dX3_findSewing_52 rfl (lv_at hl 5 rfl) ?_
                  refine lv_iload hx hb dX3_findSewing_53 (lv_at hl 1 rfl) ?_
                  refine lv_iload hx hb dX3_findSewing_55 (lv_at hl 0 rfl) ?_
                  refine lv_ineg hx hb dX3_findSewing_57 ?_
                  refine lv_topi (fun t20 et20 => ?_)
                  refine cbVi (n := 4) (rest := []) hx hb hml hown hts hE hP hD hS hA (sX_X3_sewnFits_1 l dC dI cy x0 x p1 p2 l4_6 t20 v17 f18 hIv17 ) k_1008 k_1010 k_27 k_109 k_1011 (by decide +kernel) ⟨Nat.le_of_ble_eq_true rfl, Nat.le_of_ble_eq_true rfl⟩ 26 3 rfl rfl (rfl) hl.1 rfl (Nat.le_of_ble_eq_true rfl) dX3_findSewing_58 (fun r21 u H locs hw hP hD hS => ?_)
                  obtain ⟨v22, f23⟩ := u
                  obtain ⟨kV_v22, kF_f23, hIv22, hk0_v22, hk1_v22, hk7_v22, hk8_v22, hk9_v22, hk10_v22, hk31_v22, hk32_v22, hw⟩ := hw
                  have hM_v22 : KV [24, 25] v22 v := KV.tr kV_v22 hM_v17 rfl
                  have hA_f23 : KF [13, 14] f23 f := KF.tr kF_f23 hA_f18 rfl
                  have hP : va_P (dC, dI) vwCl (XW cy x0 x v22 f23) H := hP
                  have hD : va_D A (XW cy x0 x v22 f23) := hD
                  have hq0_v22 : v22 0 = (v 0) := hk0_v22.trans hq0_v17
                  have hq1_v22 : v22 1 = (v 1) := hk1_v22.trans hq1_v17
                  have hq7_v22 : v22 7 = (v 7) := hk7_v22.trans hq7_v17
                  have hq8_v22 : v22 8 = (v 8) := hk8_v22.trans hq8_v17
                  have hq9_v22 : v22 9 = (v 9) := hk9_v22.trans hq9_v17
                  have hq10_v22 : v22 10 = (v 10) := hk10_v22.trans hq10_v17
                  have hq31_v22 : v22 31 = (v 31) := hk31_v22.trans hq31_v17
                  have hq32_v22 : v22 32 = (v 32) := hk32_v22.trans hq32_v17
                  rcases hw with ⟨g24⟩ | ⟨g24⟩
                  · skip
                    subst g24
                    refine lv_if_eq (tgt := 66) hx hb dX3_findSewing_61 (by decide) (fun c0 => absurd c0 (by decide)) (fun _ => ?_)
                    refine lv_iconst (v := 1) hx hb dX3_findSewing_64 (by decide) ?_
                    exact ret 1 (v22, f23) _ _ _ _ _ _ rfl ⟨hM_v22, hA_f23, hIv22, (hk0_v22.trans (hk0_v17.trans hq0_v6)), (hk1_v22.trans (hk1_v17.trans hq1_v6)), (hk7_v22.trans (hk7_v17.trans hq7_v6)), (hk8_v22.trans (hk8_v17.trans hq8_v6)), (hk9_v22.trans (hk9_v17.trans hq9_v6)), (hk10_v22.trans (hk10_v17.trans hq10_v6)), (hk31_v22.trans (hk31_v17.trans hq31_v6)), (hk32_v22.trans (hk32_v17.trans hq32_v6)), (Or.inl rfl)⟩ hP hD hS dX3_findSewing_65 (Nat.le_refl _) (Nat.le_refl _)
                  · skip
                    subst g24
                    refine lv_if_eq (tgt := 66) hx hb dX3_findSewing_61 (by decide) (fun _ => ?_) (fun c0 => absurd (by decide) c0)
                    obtain ⟨t25, et25⟩ : ∃ y : Int32, y = l4_6 + 1 := ⟨_, rfl⟩
                    have zt25 : t25.toInt = l4_6.toInt + 1 := by rw [et25]; exact add_i rfl (by decide) (by omega) (by omega)
                    refine lv_iinc (v := t25) (lv' := [(4, .int t25), (5, .int t15), (3, .int l3_1), (0, .ref (x 25)), (1, .int p1), (2, .int p2)]) hx hb dX3_findSewing_66 hl (k := 1) rfl (by rw [et25]; rfl) (by decide) rfl (fun ls hl => ?_)
                    refine lv_goto (tgt := 18) hx hb dX3_findSewing_69 (by decide) ?_
                    have rg26 := fb_rng t25
                    exact ih6 t25 v22 f23 hIv22 hq0_v22 hq1_v22 hq7_v22 hq8_v22 hq9_v22 hq10_v22 hq31_v22 hq32_v22 ⟨show (0 : Int) ≤ t25.toInt by omega, show t25.toInt ≤ (2147483647 : Int) by omega⟩ hM_v22 hA_f23 (by show (2147483647 - t25.toInt).toNat < n6; omega) _ _ _ hP hD hS (lv_sub hl [0, 2, 3, 4, 5] rfl)
        have rg27 := fb_rng t5
        exact lp6 _ t5 v1 f1 hIv1 hq0_v1 hq1_v1 hq7_v1 hq8_v1 hq9_v1 hq10_v1 hq31_v1 hq32_v1 ⟨show (0 : Int) ≤ t5.toInt by omega, show t5.toInt ≤ (2147483647 : Int) by omega⟩ hM_v1 hA_f1 (Nat.lt_succ_self _) _ _ _ hP hD hS (lv_sub hl [0, 1, 2, 3, 4] rfl)
  exact lp1 _ 0 v f hIv rfl rfl rfl rfl rfl rfl rfl rfl ⟨by decide, by decide⟩ hM_v hA_f (Nat.lt_succ_self _) _ _ _ hP hD hS (lv_sub hl [0, 1, 2, 3] rfl)
set_option maxHeartbeats 4000000 in
set_option maxRecDepth 100000 in
theorem sX_X10_sewing_1 (l : Launch) (dC : Nat → ClassId) (dI : Nat → Nat → Nat) (cy : Nat → ClassId) (x0 : Nat) (x : Nat → Nat) (p1 : Int32) (p2 : Int32) (p3 : Int32) (v : Nat → Int32) (f : Nat → Nat → Int32) (hIv : XI v)  : ctI l (dC, dI) cy yX10_sewing cX10_sewing 4 .int 5 162 0 0 ((Nat → Int32) × (Nat → Nat → Int32)) [.ref x0, .int p1, .int p2, .int p3] (XW cy x0 x v f) (fun r u => KV [24, 25] u.1 v ∧ KF [13, 14] u.2 f ∧ XI u.1 ∧ u.1 0 = v 0 ∧ u.1 1 = v 1 ∧ u.1 7 = v 7 ∧ u.1 8 = v 8 ∧ u.1 9 = v 9 ∧ u.1 10 = v 10 ∧ u.1 31 = v 31 ∧ u.1 32 = v 32) (fun u => XW cy x0 x u.1 u.2) := by
  refine ctI_of (by decide) (Nat.le_of_ble_eq_true rfl) (fun p e s m below meth c A ls Q hx hb hml hts hown hE hP hD hA hl ret => ?_)
  have hM_v : KV [24, 25] v v := fun _ _ => rfl
  have hA_f : KF [13, 14] f f := fun _ _ => rfl
  have hown : s.vm.findClass RX10 = some m.cls := hown
  have hS : va_S A s.heap s.heap [] := va_S.rf
  have hl : lv_has ls 4 [(0, .ref x0), (1, .int p1), (2, .int p2), (3, .int p3)] := hl
  refine lv_aload_n hx hb dX10_sewing_0 rfl (lv_at hl 0 rfl) ?_
  refine va_get (D := (dC, dI)) (ci := 10) (v := .ref (x 26)) (C := RX10) (T := TX10) (N := 10) hx hb hts inB_10 hown hE.1 hP 0 rfl rfl 2 (by decide) (hts _ k_493) (fun _ h9 => h9) rfl dX10_sewing_1 ?_
  refine lv_iload_n hx hb dX10_sewing_4 rfl (lv_at hl 1 rfl) ?_
  refine cbVi (n := 1) (rest := []) hx hb hml hown hts hE hP hD hS hA (sX_X7_hasCoat_1 0 l dC dI cy x0 x p1 v f hIv ) k_848 k_315 k_316 k_104 k_317 (by decide +kernel) ⟨Nat.le_of_ble_eq_true rfl, Nat.le_of_ble_eq_true rfl⟩ 27 7 rfl rfl (rfl) hl.1 rfl (Nat.le_of_ble_eq_true rfl) dX10_sewing_5 (fun r1 u H locs hw hP hD hS => ?_)
  obtain ⟨hG2, hw⟩ := hw
  rcases hw with ⟨g3, g3_0, g3_1, g3_2⟩ | ⟨g3⟩
  · skip
    subst g3
    refine lv_if_eq (tgt := 31) hx hb dX10_sewing_8 (by decide) (fun c0 => absurd c0 (by decide)) (fun _ => ?_)
    refine lv_aload_n hx hb dX10_sewing_11 rfl (lv_at hl 0 rfl) ?_
    refine va_get (D := (dC, dI)) (ci := 10) (v := .ref (x 26)) (C := RX10) (T := TX10) (N := 10) hx hb hts inB_10 hown hE.1 hP 0 rfl rfl 2 (by decide) (hts _ k_493) (fun _ h9 => h9) rfl dX10_sewing_12 ?_
    refine lv_iload_n hx hb dX10_sewing_15 rfl (lv_at hl 2 rfl) ?_
    refine cbVi (n := 1) (rest := []) hx hb hml hown hts hE hP hD hS hA (sX_X7_hasMan_1 0 l dC dI cy x0 x p2 v f hIv ) k_802 k_307 k_308 k_104 k_309 (by decide +kernel) ⟨Nat.le_of_ble_eq_true rfl, Nat.le_of_ble_eq_true rfl⟩ 27 7 rfl rfl (rfl) hl.1 rfl (Nat.le_of_ble_eq_true rfl) dX10_sewing_16 (fun r4 u H locs hw hP hD hS => ?_)
    obtain ⟨hG5, hw⟩ := hw
    rcases hw with ⟨g6, g6_0, g6_1, g6_2⟩ | ⟨g6⟩
    · skip
      subst g6
      refine lv_if_eq (tgt := 31) hx hb dX10_sewing_19 (by decide) (fun c0 => absurd c0 (by decide)) (fun _ => ?_)
      refine lv_iload_n hx hb dX10_sewing_22 rfl (lv_at hl 3 rfl) ?_
      refine lv_if_lt (tgt := 31) hx hb dX10_sewing_23 (by decide) (fun c7 => ?_) (fun c7 => ?_)
      · skip
        have zc7 : p3.toInt < 0 := by rw [fa_lt, show (0 : Int32).toInt = 0 from by decide] at c7; exact c7
        refine lv_bipush (v := (-100)) hx hb dX10_sewing_31 (by decide) ?_
        exact ret (-100) (v, f) _ _ _ _ _ _ rfl ⟨hM_v, hA_f, hIv, rfl, rfl, rfl, rfl, rfl, rfl, rfl, rfl⟩ hP hD hS dX10_sewing_33 (Nat.le_refl _) (Nat.le_refl _)
      · skip
        have zc7 : ¬ (p3.toInt < 0) := by rw [fa_lt, show (0 : Int32).toInt = 0 from by decide] at c7; exact c7
        refine lv_iload_n hx hb dX10_sewing_26 rfl (lv_at hl 3 rfl) ?_
        refine lv_iconst (v := 2) hx hb dX10_sewing_27 (by decide) ?_
        refine lv_icmp_le (tgt := 34) hx hb dX10_sewing_28 (by decide) (fun c8 => ?_) (fun c8 => ?_)
        · skip
          have zc8 : p3.toInt ≤ 2 := by rw [fa_le, show (2 : Int32).toInt = 2 from by decide] at c8; exact c8
          refine lv_aload_n hx hb dX10_sewing_34 rfl (lv_at hl 0 rfl) ?_
          refine va_get (D := (dC, dI)) (ci := 10) (v := .ref (x 25)) (C := RX10) (T := TX10) (N := 10) hx hb hts inB_10 hown hE.1 hP 0 rfl rfl 5 (by decide) (hts _ k_496) (fun _ h9 => h9) rfl dX10_sewing_35 ?_
          refine lv_iload_n hx hb dX10_sewing_38 rfl (lv_at hl 1 rfl) ?_
          refine lv_iload_n hx hb dX10_sewing_39 rfl (lv_at hl 2 rfl) ?_
          refine cbVi (n := 2) (rest := []) hx hb hml hown hts hE hP hD hS hA (sX_X3_findSewing_1 l dC dI cy x0 x p1 p2 v f hIv ) k_1003 k_1004 k_1005 k_109 k_1006 (by decide +kernel) ⟨Nat.le_of_ble_eq_true rfl, Nat.le_of_ble_eq_true rfl⟩ 26 3 rfl rfl (rfl) hl.1 rfl (Nat.le_of_ble_eq_true rfl) dX10_sewing_40 (fun r9 u H locs hw hP hD hS => ?_)
          obtain ⟨v10, f11⟩ := u
          obtain ⟨kV_v10, kF_f11, hIv10, hk0_v10, hk1_v10, hk7_v10, hk8_v10, hk9_v10, hk10_v10, hk31_v10, hk32_v10, hw⟩ := hw
          have hM_v10 : KV [24, 25] v10 v := KV.tr kV_v10 hM_v rfl
          have hA_f11 : KF [13, 14] f11 f := KF.tr kF_f11 hA_f rfl
          have hP : va_P (dC, dI) vwCl (XW cy x0 x v10 f11) H := hP
          have hD : va_D A (XW cy x0 x v10 f11) := hD
          have hq0_v10 : v10 0 = (v 0) := hk0_v10
          have hq1_v10 : v10 1 = (v 1) := hk1_v10
          have hq7_v10 : v10 7 = (v 7) := hk7_v10
          have hq8_v10 : v10 8 = (v 8) := hk8_v10
          have hq9_v10 : v10 9 = (v 9) := hk9_v10
          have hq10_v10 : v10 10 = (v 10) := hk10_v10
          have hq31_v10 : v10 31 = (v 31) := hk31_v10
          have hq32_v10 : v10 32 = (v 32) := hk32_v10
          rcases hw with ⟨g12⟩ | ⟨g12⟩
          · skip
            subst g12
            refine lv_if_ne (tgt := 49) hx hb dX10_sewing_43 (by decide) (fun _ => ?_) (fun c0 => absurd c0 (by decide))
            refine lv_iload_n hx hb dX10_sewing_49 rfl (lv_at hl 3 rfl) ?_
            refine lv_if_ne (tgt := 72) hx hb dX10_sewing_50 (by decide) (fun c13 => ?_) (fun c13 => ?_)
            · skip
              have zc13 : ¬ (p3.toInt = 0) := by rw [fa_eq, show (0 : Int32).toInt = 0 from by decide] at c13; exact c13
              refine lv_iload_n hx hb dX10_sewing_72 rfl (lv_at hl 3 rfl) ?_
              refine lv_iconst (v := 1) hx hb dX10_sewing_73 (by decide) ?_
              refine lv_icmp_ne (tgt := 87) hx hb dX10_sewing_74 (by decide) (fun c14 => ?_) (fun c14 => ?_)
              · skip
                have zc14 : ¬ (p3.toInt = 1) := by rw [fa_eq, show (1 : Int32).toInt = 1 from by decide] at c14; exact c14
                refine lv_aload_n hx hb dX10_sewing_87 rfl (lv_at hl 0 rfl) ?_
                refine va_get (D := (dC, dI)) (ci := 10) (v := .ref (x 25)) (C := RX10) (T := TX10) (N := 10) hx hb hts inB_10 hown hE.1 hP 0 rfl rfl 5 (by decide) (hts _ k_496) (fun _ h9 => h9) rfl dX10_sewing_88 ?_
                refine va_getN (D := (dC, dI)) (ci := 3) (v := .int (v10 25)) (C := RX3) (T := TX3) (N := 10) hx hb hts inB_3 hown hE.1 hP 26 rfl rfl 4 (by decide) (va_Nw.use rfl (hE.2 _ k_376)) (fun _ h9 => h9) rfl dX10_sewing_91 ?_
                exact ret (v10 25) (v10, f11) _ _ _ _ _ _ rfl ⟨hM_v10, hA_f11, hIv10, hk0_v10, hk1_v10, hk7_v10, hk8_v10, hk9_v10, hk10_v10, hk31_v10, hk32_v10⟩ hP hD hS dX10_sewing_94 (Nat.le_refl _) (Nat.le_refl _)
              · skip
                have zc14 : p3.toInt = 1 := by rw [fa_eq, show (1 : Int32).toInt = 1 from by decide] at c14; exact c14
                refine lv_aload_n hx hb dX10_sewing_77 rfl (lv_at hl 0 rfl) ?_
                refine va_get (D := (dC, dI)) (ci := 10) (v := .ref (x 25)) (C := RX10) (T := TX10) (N := 10) hx hb hts inB_10 hown hE.1 hP 0 rfl rfl 5 (by decide) (hts _ k_496) (fun _ h9 => h9) rfl dX10_sewing_78 ?_
                refine va_getN (D := (dC, dI)) (ci := 3) (v := .int (v10 24)) (C := RX3) (T := TX3) (N := 10) hx hb hts inB_3 hown hE.1 hP 26 rfl rfl 3 (by decide) (va_Nw.use rfl (hE.2 _ k_374)) (fun _ h9 => h9) rfl dX10_sewing_81 ?_
                refine lv_goto (tgt := 94) hx hb dX10_sewing_84 (by decide) ?_
                exact ret (v10 24) (v10, f11) _ _ _ _ _ _ rfl ⟨hM_v10, hA_f11, hIv10, hk0_v10, hk1_v10, hk7_v10, hk8_v10, hk9_v10, hk10_v10, hk31_v10, hk32_v10⟩ hP hD hS dX10_sewing_94 (Nat.le_refl _) (Nat.le_refl _)
            · skip
              have zc13 : p3.toInt = 0 := by rw [fa_eq, show (0 : Int32).toInt = 0 from by decide] at c13; exact c13
              refine lv_aload_n hx hb dX10_sewing_53 rfl (lv_at hl 0 rfl) ?_
              refine va_get (D := (dC, dI)) (ci := 10) (v := .ref (x 25)) (C := RX10) (T := TX10) (N := 10) hx hb hts inB_10 hown hE.1 hP 0 rfl rfl 5 (by decide) (hts _ k_496) (fun _ h9 => h9) rfl dX10_sewing_54 ?_
              refine va_getN (D := (dC, dI)) (ci := 3) (v := .int (v10 24)) (C := RX3) (T := TX3) (N := 10) hx hb hts inB_3 hown hE.1 hP 26 rfl rfl 3 (by decide) (va_Nw.use rfl (hE.2 _ k_374)) (fun _ h9 => h9) rfl dX10_sewing_57 ?_
              refine lv_aload_n hx hb dX10_sewing_60 rfl (lv_at hl 0 rfl) ?_
              refine va_get (D := (dC, dI)) (ci := 10) (v := .ref (x 25)) (C := RX10) (T := TX10) (N := 10) hx hb hts inB_10 hown hE.1 hP 0 rfl rfl 5 (by decide) (hts _ k_496) (fun _ h9 => h9) rfl dX10_sewing_61 ?_
              refine va_getN (D := (dC, dI)) (ci := 3) (v := .int (v10 25)) (C := RX3) (T := TX3) (N := 10) hx hb hts inB_3 hown hE.1 hP 26 rfl rfl 4 (by decide) (va_Nw.use rfl (hE.2 _ k_376)) (fun _ h9 => h9) rfl dX10_sewing_64 ?_
              refine va_mabs hx hb (by rw [hml]; exact hl.1.symm) hown (hts _ k_1017) (hts _ k_1018) (hts _ k_119) (hts _ k_1019) (Nat.le_of_ble_eq_true rfl) (Nat.le_of_ble_eq_true rfl) (Nat.le_of_ble_eq_true rfl) (Nat.le_of_ble_eq_true rfl) dX10_sewing_67 ?_
              refine lv_topi (fun t15 et15 => ?_)
              refine lv_iadd hx hb dX10_sewing_70 ?_
              refine lv_topi (fun t16 et16 => ?_)
              exact ret t16 (v10, f11) _ _ _ _ _ _ rfl ⟨hM_v10, hA_f11, hIv10, hk0_v10, hk1_v10, hk7_v10, hk8_v10, hk9_v10, hk10_v10, hk31_v10, hk32_v10⟩ hP hD hS dX10_sewing_71 (Nat.le_refl _) (Nat.le_refl _)
          · skip
            subst g12
            refine lv_if_ne (tgt := 49) hx hb dX10_sewing_43 (by decide) (fun c0 => absurd (by decide) c0) (fun _ => ?_)
            refine lv_bipush (v := (-100)) hx hb dX10_sewing_46 (by decide) ?_
            exact ret (-100) (v10, f11) _ _ _ _ _ _ rfl ⟨hM_v10, hA_f11, hIv10, hk0_v10, hk1_v10, hk7_v10, hk8_v10, hk9_v10, hk10_v10, hk31_v10, hk32_v10⟩ hP hD hS dX10_sewing_48 (Nat.le_refl _) (Nat.le_refl _)
        · skip
          have zc8 : ¬ (p3.toInt ≤ 2) := by rw [fa_le, show (2 : Int32).toInt = 2 from by decide] at c8; exact c8
          refine lv_bipush (v := (-100)) hx hb dX10_sewing_31 (by decide) ?_
          exact ret (-100) (v, f) _ _ _ _ _ _ rfl ⟨hM_v, hA_f, hIv, rfl, rfl, rfl, rfl, rfl, rfl, rfl, rfl⟩ hP hD hS dX10_sewing_33 (Nat.le_refl _) (Nat.le_refl _)
    · skip
      subst g6
      refine lv_if_eq (tgt := 31) hx hb dX10_sewing_19 (by decide) (fun _ => ?_) (fun c0 => absurd (by decide) c0)
      refine lv_bipush (v := (-100)) hx hb dX10_sewing_31 (by decide) ?_
      exact ret (-100) (v, f) _ _ _ _ _ _ rfl ⟨hM_v, hA_f, hIv, rfl, rfl, rfl, rfl, rfl, rfl, rfl, rfl⟩ hP hD hS dX10_sewing_33 (Nat.le_refl _) (Nat.le_refl _)
  · skip
    subst g3
    refine lv_if_eq (tgt := 31) hx hb dX10_sewing_8 (by decide) (fun _ => ?_) (fun c0 => absurd (by decide) c0)
    refine lv_bipush (v := (-100)) hx hb dX10_sewing_31 (by decide) ?_
    exact ret (-100) (v, f) _ _ _ _ _ _ rfl ⟨hM_v, hA_f, hIv, rfl, rfl, rfl, rfl, rfl, rfl, rfl, rfl⟩ hP hD hS dX10_sewing_33 (Nat.le_refl _) (Nat.le_refl _)
set_option maxHeartbeats 4000000 in
set_option maxRecDepth 100000 in
theorem sX_X3_rotaCount_1 (l : Launch) (dC : Nat → ClassId) (dI : Nat → Nat → Nat) (cy : Nat → ClassId) (x0 : Nat) (x : Nat → Nat) (p1 : Int32) (v : Nat → Int32) (f : Nat → Nat → Int32) (hIv : XI v)  : ctI l (dC, dI) cy yX3_rotaCount cX3_rotaCount 5 .int 5 155 0 0 ((Nat → Int32) × (Nat → Nat → Int32)) [.ref (x 25), .int p1] (XW cy x0 x v f) (fun r u => KV [] u.1 v ∧ KF [13, 14] u.2 f ∧ XI u.1 ∧ u.1 0 = v 0 ∧ u.1 1 = v 1 ∧ u.1 7 = v 7 ∧ u.1 8 = v 8 ∧ u.1 9 = v 9 ∧ u.1 10 = v 10 ∧ u.1 31 = v 31 ∧ u.1 32 = v 32) (fun u => XW cy x0 x u.1 u.2) := by
  refine ctI_of (by decide) (Nat.le_of_ble_eq_true rfl) (fun p e s m below meth c A ls Q hx hb hml hts hown hE hP hD hA hl ret => ?_)
  have hM_v : KV [] v v := fun _ _ => rfl
  have hA_f : KF [13, 14] f f := fun _ _ => rfl
  have hown : s.vm.findClass RX3 = some m.cls := hown
  have hS : va_S A s.heap s.heap [] := va_S.rf
  have hl : lv_has ls 5 [(0, .ref (x 25)), (1, .int p1)] := hl
  refine lv_iconst (v := 0) hx hb dX3_rotaCount_0 (by decide) ?_
  refine lv_istore_n (lv' := [(2, .int 0), (0, .ref (x 25)), (1, .int p1)]) hx hb dX3_rotaCount_1 rfl hl (by decide) rfl (fun ls hl => ?_)
  refine lv_iconst (v := 0) hx hb dX3_rotaCount_2 (by decide) ?_
  refine lv_istore_n (lv' := [(3, .int 0), (2, .int 0), (0, .ref (x 25)), (1, .int p1)]) hx hb dX3_rotaCount_3 rfl hl (by decide) rfl (fun ls hl => ?_)
  have lp1 : ∀ (n1 : Nat) (l2_1 : Int32) (l3_1 : Int32) (v1 : Nat → Int32) (f1 : Nat → Nat → Int32), XI v1 → v1 0 = (v 0) → v1 1 = (v 1) → v1 7 = (v 7) → v1 8 = (v 8) → v1 9 = (v 9) → v1 10 = (v 10) → v1 31 = (v 31) → v1 32 = (v 32) → ((0 : Int) ≤ l3_1.toInt ∧ l3_1.toInt ≤ 2147483647) → KV [] v1 v → KF [13, 14] f1 f → (2147483647 - l3_1.toInt).toNat < n1 → ∀ (H : Heap) (locs : List Loc) (ls : Array Slot), va_P (dC, dI) vwCl (XW cy x0 x v1 f1) H → va_D A (XW cy x0 x v1 f1) → va_S A s.heap H locs → lv_has ls 5 [(3, .int l3_1), (2, .int l2_1), (0, .ref (x 25)), (1, .int p1)] → W p l e { frames := 5, cells := 0, slots := 0, locals := 155 } s m ([.ref (x 25), .int p1] : List Value).toArray below meth c H locs 0 0 Q (F0 m 4 ls []) := by
    intro n1
    induction n1 with
    | zero => intro l2_1 l3_1 v1 f1 hIv1 hq0_v1 hq1_v1 hq7_v1 hq8_v1 hq9_v1 hq10_v1 hq31_v1 hq32_v1 hr3_1 hM_v1 hA_f1 hm; exact absurd hm (Nat.not_lt_zero _)
    | succ n1 ih1 =>
      intro l2_1 l3_1 v1 f1 hIv1 hq0_v1 hq1_v1 hq7_v1 hq8_v1 hq9_v1 hq10_v1 hq31_v1 hq32_v1 hr3_1 hM_v1 hA_f1 hm1 H locs ls hP hD hS hl
      refine lv_iload_n hx hb dX3_rotaCount_4 rfl (lv_at hl 0 rfl) ?_
      refine lv_aload_n hx hb dX3_rotaCount_5 rfl (lv_at hl 2 rfl) ?_
      refine va_get (D := (dC, dI)) (ci := 3) (v := .ref (x 26)) (C := RX3) (T := TX3) (N := 10) hx hb hts inB_3 hown hE.1 hP 26 rfl rfl 0 (by decide) (hts _ k_370) (fun _ h9 => h9) rfl dX3_rotaCount_6 ?_
      refine va_getN (D := (dC, dI)) (ci := 7) (v := .int (v1 31)) (C := RX7) (T := TX7) (N := 10) hx hb hts inB_7 hown hE.1 hP 27 rfl rfl 3 (by decide) (va_Nw.use rfl (hE.2 _ k_217)) (fun _ h9 => h9) rfl dX3_rotaCount_9 ?_
      refine tI (y := (v 31)) hq31_v1 ?_
      have b31_v : 0 ≤ (v 31).toInt ∧ (v 31).toInt ≤ 6 := XI.b hIv 31 (by decide)
      refine lv_icmp_ge (tgt := 76) hx hb dX3_rotaCount_12 (by decide) (fun c2 => ?_) (fun c2 => ?_)
      · skip
        have zc2 : (v 31).toInt ≤ l3_1.toInt := by rw [fa_le] at c2; exact c2
        have rg3 := fb_rng l3_1
        have rg4 := fb_rng (v 31)
        refine lv_iload_n hx hb dX3_rotaCount_76 rfl (lv_at hl 1 rfl) ?_
        exact ret l2_1 (v1, f1) _ _ _ _ _ _ rfl ⟨hM_v1, hA_f1, hIv1, (show v1 0 = v 0 from hq0_v1), (show v1 1 = v 1 from hq1_v1), (show v1 7 = v 7 from hq7_v1), (show v1 8 = v 8 from hq8_v1), (show v1 9 = v 9 from hq9_v1), (show v1 10 = v 10 from hq10_v1), (show v1 31 = v 31 from hq31_v1), (show v1 32 = v 32 from hq32_v1)⟩ hP hD hS dX3_rotaCount_77 (Nat.le_refl _) (Nat.le_refl _)
      · skip
        have zc2 : ¬ ((v 31).toInt ≤ l3_1.toInt) := by rw [fa_le] at c2; exact c2
        have rg5 := fb_rng l3_1
        have rg6 := fb_rng (v 31)
        refine lv_iload_n hx hb dX3_rotaCount_15 rfl (lv_at hl 0 rfl) ?_
        refine lv_iload_n hx hb dX3_rotaCount_16 rfl (lv_at hl 3 rfl) ?_
        refine lv_iadd hx hb dX3_rotaCount_17 ?_
        refine lv_topi (fun t7 et7 => ?_)
        refine lv_aload_n hx hb dX3_rotaCount_18 rfl (lv_at hl 2 rfl) ?_
        refine va_get (D := (dC, dI)) (ci := 3) (v := .ref (x 26)) (C := RX3) (T := TX3) (N := 10) hx hb hts inB_3 hown hE.1 hP 26 rfl rfl 0 (by decide) (hts _ k_370) (fun _ h9 => h9) rfl dX3_rotaCount_19 ?_
        refine va_getN (D := (dC, dI)) (ci := 7) (v := .int (v1 31)) (C := RX7) (T := TX7) (N := 10) hx hb hts inB_7 hown hE.1 hP 27 rfl rfl 3 (by decide) (va_Nw.use rfl (hE.2 _ k_217)) (fun _ h9 => h9) rfl dX3_rotaCount_22 ?_
        refine tI (y := (v 31)) hq31_v1 ?_
        refine lv_icmp_ge (tgt := 34) hx hb dX3_rotaCount_25 (by decide) (fun c8 => ?_) (fun c8 => ?_)
        · skip
          have zc8 : (v 31).toInt ≤ t7.toInt := by rw [fa_le] at c8; exact c8
          have rg9 := fb_rng t7
          refine lv_iload_n hx hb dX3_rotaCount_34 rfl (lv_at hl 0 rfl) ?_
          refine lv_iload_n hx hb dX3_rotaCount_35 rfl (lv_at hl 3 rfl) ?_
          refine lv_iadd hx hb dX3_rotaCount_36 ?_
          refine tI (y := t7) et7.symm ?_
          refine lv_aload_n hx hb dX3_rotaCount_37 rfl (lv_at hl 2 rfl) ?_
          refine va_get (D := (dC, dI)) (ci := 3) (v := .ref (x 26)) (C := RX3) (T := TX3) (N := 10) hx hb hts inB_3 hown hE.1 hP 26 rfl rfl 0 (by decide) (hts _ k_370) (fun _ h9 => h9) rfl dX3_rotaCount_38 ?_
          refine va_getN (D := (dC, dI)) (ci := 7) (v := .int (v1 31)) (C := RX7) (T := TX7) (N := 10) hx hb hts inB_7 hown hE.1 hP 27 rfl rfl 3 (by decide) (va_Nw.use rfl (hE.2 _ k_217)) (fun _ h9 => h9) rfl dX3_rotaCount_41 ?_
          refine tI (y := (v 31)) hq31_v1 ?_
          refine lv_isub hx hb dX3_rotaCount_44 ?_
          refine lv_topi (fun t10 et10 => ?_)
          have zt10 : t10.toInt = t7.toInt - (v 31).toInt := by rw [et10]; exact sub_i rfl rfl (by omega) (by omega)
          refine lv_istore (lv' := [(4, .int t10), (3, .int l3_1), (2, .int l2_1), (0, .ref (x 25)), (1, .int p1)]) hx hb dX3_rotaCount_45 hl (by decide) rfl (fun ls hl => ?_)
          refine lv_aload_n hx hb dX3_rotaCount_47 rfl (lv_at hl 3 rfl) ?_
          refine va_get (D := (dC, dI)) (ci := 3) (v := .ref (x 21)) (C := RX3) (T := TX3) (N := 10) hx hb hts inB_3 hown hE.1 hP 26 rfl rfl 1 (by decide) (hts _ k_371) (fun _ h9 => h9) rfl dX3_rotaCount_48 ?_
          refine lv_iload_n hx hb dX3_rotaCount_51 rfl (lv_at hl 1 rfl) ?_
          refine lv_aload_n hx hb dX3_rotaCount_52 rfl (lv_at hl 3 rfl) ?_
          refine va_get (D := (dC, dI)) (ci := 3) (v := .ref (x 21)) (C := RX3) (T := TX3) (N := 10) hx hb hts inB_3 hown hE.1 hP 26 rfl rfl 1 (by decide) (hts _ k_371) (fun _ h9 => h9) rfl dX3_rotaCount_53 ?_
          refine lv_iload hx hb dX3_rotaCount_56 (lv_at hl 0 rfl) ?_
          refine cbVi (n := 1) (rest := [.int l3_1, .ref (x 21)]) hx hb hml hown hts hE hP hD hS hA (sX_X1_wears_1 0 l dC dI cy x0 x t10 v1 f1 hIv1 ) k_950 k_810 k_811 k_106 k_812 (by decide +kernel) ⟨Nat.le_of_ble_eq_true rfl, Nat.le_of_ble_eq_true rfl⟩ 22 1 rfl rfl (rfl) hl.1 rfl (Nat.le_of_ble_eq_true rfl) dX3_rotaCount_58 (fun r11 u H locs hw hP hD hS => ?_)
          have hG12 := hw
          refine cbVi (n := 2) (rest := []) hx hb hml hown hts hE hP hD hS hA (sX_X1_fits_1 0 l dC dI cy x0 x l3_1 r11 v1 f1 hIv1 ) k_1032 k_818 k_819 k_106 k_820 (by decide +kernel) ⟨Nat.le_of_ble_eq_true rfl, Nat.le_of_ble_eq_true rfl⟩ 22 1 rfl rfl (rfl) hl.1 rfl (Nat.le_of_ble_eq_true rfl) dX3_rotaCount_61 (fun r13 u H locs hw hP hD hS => ?_)
          obtain ⟨hG14, hw⟩ := hw
          obtain ⟨v15, f16⟩ := u
          obtain ⟨kV_v15, kF_f16, hIv15, hk0_v15, hk1_v15, hk7_v15, hk8_v15, hk9_v15, hk10_v15, hk31_v15, hk32_v15, hw⟩ := hw
          have hM_v15 : KV [] v15 v := KV.tr kV_v15 hM_v1 rfl
          have hA_f16 : KF [13, 14] f16 f := KF.tr kF_f16 hA_f1 rfl
          have hP : va_P (dC, dI) vwCl (XW cy x0 x v15 f16) H := hP
          have hD : va_D A (XW cy x0 x v15 f16) := hD
          have hq0_v15 : v15 0 = (v 0) := hk0_v15.trans hq0_v1
          have hq1_v15 : v15 1 = (v 1) := hk1_v15.trans hq1_v1
          have hq7_v15 : v15 7 = (v 7) := hk7_v15.trans hq7_v1
          have hq8_v15 : v15 8 = (v 8) := hk8_v15.trans hq8_v1
          have hq9_v15 : v15 9 = (v 9) := hk9_v15.trans hq9_v1
          have hq10_v15 : v15 10 = (v 10) := hk10_v15.trans hq10_v1
          have hq31_v15 : v15 31 = (v 31) := hk31_v15.trans hq31_v1
          have hq32_v15 : v15 32 = (v 32) := hk32_v15.trans hq32_v1
          rcases hw with ⟨g17⟩ | ⟨g17⟩
          · skip
            subst g17
            refine lv_if_eq (tgt := 70) hx hb dX3_rotaCount_64 (by decide) (fun c0 => absurd c0 (by decide)) (fun _ => ?_)
            obtain ⟨t18, et18⟩ : ∃ y : Int32, y = l2_1 + 1 := ⟨_, rfl⟩
            refine lv_iinc (v := t18) (lv' := [(2, .int t18), (4, .int t10), (3, .int l3_1), (0, .ref (x 25)), (1, .int p1)]) hx hb dX3_rotaCount_67 hl (k := 2) rfl (by rw [et18]; rfl) (by decide) rfl (fun ls hl => ?_)
            obtain ⟨t19, et19⟩ : ∃ y : Int32, y = l3_1 + 1 := ⟨_, rfl⟩
            have zt19 : t19.toInt = l3_1.toInt + 1 := by rw [et19]; exact add_i rfl (by decide) (by omega) (by omega)
            refine lv_iinc (v := t19) (lv' := [(3, .int t19), (2, .int t18), (4, .int t10), (0, .ref (x 25)), (1, .int p1)]) hx hb dX3_rotaCount_70 hl (k := 2) rfl (by rw [et19]; rfl) (by decide) rfl (fun ls hl => ?_)
            refine lv_goto (tgt := 4) hx hb dX3_rotaCount_73 (by decide) ?_
            have rg20 := fb_rng t19
            exact ih1 t18 t19 v15 f16 hIv15 hq0_v15 hq1_v15 hq7_v15 hq8_v15 hq9_v15 hq10_v15 hq31_v15 hq32_v15 ⟨show (0 : Int) ≤ t19.toInt by omega, show t19.toInt ≤ (2147483647 : Int) by omega⟩ hM_v15 hA_f16 (by show (2147483647 - t19.toInt).toNat < n1; omega) _ _ _ hP hD hS (lv_sub hl [0, 1, 3, 4] rfl)
          · skip
            subst g17
            refine lv_if_eq (tgt := 70) hx hb dX3_rotaCount_64 (by decide) (fun _ => ?_) (fun c0 => absurd (by decide) c0)
            obtain ⟨t21, et21⟩ : ∃ y : Int32, y = l3_1 + 1 := ⟨_, rfl⟩
            have zt21 : t21.toInt = l3_1.toInt + 1 := by rw [et21]; exact add_i rfl (by decide) (by omega) (by omega)
            refine lv_iinc (v := t21) (lv' := [(3, .int t21), (4, .int t10), (2, .int l2_1), (0, .ref (x 25)), (1, .int p1)]) hx hb dX3_rotaCount_70 hl (k := 1) rfl (by rw [et21]; rfl) (by decide) rfl (fun ls hl => ?_)
            refine lv_goto (tgt := 4) hx hb dX3_rotaCount_73 (by decide) ?_
            have rg22 := fb_rng t21
            exact ih1 l2_1 t21 v15 f16 hIv15 hq0_v15 hq1_v15 hq7_v15 hq8_v15 hq9_v15 hq10_v15 hq31_v15 hq32_v15 ⟨show (0 : Int) ≤ t21.toInt by omega, show t21.toInt ≤ (2147483647 : Int) by omega⟩ hM_v15 hA_f16 (by show (2147483647 - t21.toInt).toNat < n1; omega) _ _ _ hP hD hS (lv_sub hl [0, 2, 3, 4] rfl)
        · skip
          have zc8 : ¬ ((v 31).toInt ≤ t7.toInt) := by rw [fa_le] at c8; exact c8
          have rg23 := fb_rng t7
          refine lv_iload_n hx hb dX3_rotaCount_28 rfl (lv_at hl 0 rfl) ?_
          refine lv_iload_n hx hb dX3_rotaCount_29 rfl (lv_at hl 3 rfl) ?_
          refine lv_iadd hx hb dX3_rotaCount_30 ?_
          refine tI (y := t7) et7.symm ?_
          refine lv_goto (tgt := 45) hx hb dX3_rotaCount_31 (by decide) ?_
          refine lv_istore (lv' := [(4, .int t7), (3, .int l3_1), (2, .int l2_1), (0, .ref (x 25)), (1, .int p1)]) hx hb dX3_rotaCount_45 hl (by decide) rfl (fun ls hl => ?_)
          refine lv_aload_n hx hb dX3_rotaCount_47 rfl (lv_at hl 3 rfl) ?_
          refine va_get (D := (dC, dI)) (ci := 3) (v := .ref (x 21)) (C := RX3) (T := TX3) (N := 10) hx hb hts inB_3 hown hE.1 hP 26 rfl rfl 1 (by decide) (hts _ k_371) (fun _ h9 => h9) rfl dX3_rotaCount_48 ?_
          refine lv_iload_n hx hb dX3_rotaCount_51 rfl (lv_at hl 1 rfl) ?_
          refine lv_aload_n hx hb dX3_rotaCount_52 rfl (lv_at hl 3 rfl) ?_
          refine va_get (D := (dC, dI)) (ci := 3) (v := .ref (x 21)) (C := RX3) (T := TX3) (N := 10) hx hb hts inB_3 hown hE.1 hP 26 rfl rfl 1 (by decide) (hts _ k_371) (fun _ h9 => h9) rfl dX3_rotaCount_53 ?_
          refine lv_iload hx hb dX3_rotaCount_56 (lv_at hl 0 rfl) ?_
          refine cbVi (n := 1) (rest := [.int l3_1, .ref (x 21)]) hx hb hml hown hts hE hP hD hS hA (sX_X1_wears_1 0 l dC dI cy x0 x t7 v1 f1 hIv1 ) k_950 k_810 k_811 k_106 k_812 (by decide +kernel) ⟨Nat.le_of_ble_eq_true rfl, Nat.le_of_ble_eq_true rfl⟩ 22 1 rfl rfl (rfl) hl.1 rfl (Nat.le_of_ble_eq_true rfl) dX3_rotaCount_58 (fun r24 u H locs hw hP hD hS => ?_)
          have hG25 := hw
          refine cbVi (n := 2) (rest := []) hx hb hml hown hts hE hP hD hS hA (sX_X1_fits_1 0 l dC dI cy x0 x l3_1 r24 v1 f1 hIv1 ) k_1032 k_818 k_819 k_106 k_820 (by decide +kernel) ⟨Nat.le_of_ble_eq_true rfl, Nat.le_of_ble_eq_true rfl⟩ 22 1 rfl rfl (rfl) hl.1 rfl (Nat.le_of_ble_eq_true rfl) dX3_rotaCount_61 (fun r26 u H locs hw hP hD hS => ?_)
          obtain ⟨hG27, hw⟩ := hw
          obtain ⟨v28, f29⟩ := u
          obtain ⟨kV_v28, kF_f29, hIv28, hk0_v28, hk1_v28, hk7_v28, hk8_v28, hk9_v28, hk10_v28, hk31_v28, hk32_v28, hw⟩ := hw
          have hM_v28 : KV [] v28 v := KV.tr kV_v28 hM_v1 rfl
          have hA_f29 : KF [13, 14] f29 f := KF.tr kF_f29 hA_f1 rfl
          have hP : va_P (dC, dI) vwCl (XW cy x0 x v28 f29) H := hP
          have hD : va_D A (XW cy x0 x v28 f29) := hD
          have hq0_v28 : v28 0 = (v 0) := hk0_v28.trans hq0_v1
          have hq1_v28 : v28 1 = (v 1) := hk1_v28.trans hq1_v1
          have hq7_v28 : v28 7 = (v 7) := hk7_v28.trans hq7_v1
          have hq8_v28 : v28 8 = (v 8) := hk8_v28.trans hq8_v1
          have hq9_v28 : v28 9 = (v 9) := hk9_v28.trans hq9_v1
          have hq10_v28 : v28 10 = (v 10) := hk10_v28.trans hq10_v1
          have hq31_v28 : v28 31 = (v 31) := hk31_v28.trans hq31_v1
          have hq32_v28 : v28 32 = (v 32) := hk32_v28.trans hq32_v1
          rcases hw with ⟨g30⟩ | ⟨g30⟩
          · skip
            subst g30
            refine lv_if_eq (tgt := 70) hx hb dX3_rotaCount_64 (by decide) (fun c0 => absurd c0 (by decide)) (fun _ => ?_)
            obtain ⟨t31, et31⟩ : ∃ y : Int32, y = l2_1 + 1 := ⟨_, rfl⟩
            refine lv_iinc (v := t31) (lv' := [(2, .int t31), (4, .int t7), (3, .int l3_1), (0, .ref (x 25)), (1, .int p1)]) hx hb dX3_rotaCount_67 hl (k := 2) rfl (by rw [et31]; rfl) (by decide) rfl (fun ls hl => ?_)
            obtain ⟨t32, et32⟩ : ∃ y : Int32, y = l3_1 + 1 := ⟨_, rfl⟩
            have zt32 : t32.toInt = l3_1.toInt + 1 := by rw [et32]; exact add_i rfl (by decide) (by omega) (by omega)
            refine lv_iinc (v := t32) (lv' := [(3, .int t32), (2, .int t31), (4, .int t7), (0, .ref (x 25)), (1, .int p1)]) hx hb dX3_rotaCount_70 hl (k := 2) rfl (by rw [et32]; rfl) (by decide) rfl (fun ls hl => ?_)
            refine lv_goto (tgt := 4) hx hb dX3_rotaCount_73 (by decide) ?_
            have rg33 := fb_rng t32
            exact ih1 t31 t32 v28 f29 hIv28 hq0_v28 hq1_v28 hq7_v28 hq8_v28 hq9_v28 hq10_v28 hq31_v28 hq32_v28 ⟨show (0 : Int) ≤ t32.toInt by omega, show t32.toInt ≤ (2147483647 : Int) by omega⟩ hM_v28 hA_f29 (by show (2147483647 - t32.toInt).toNat < n1; omega) _ _ _ hP hD hS (lv_sub hl [0, 1, 3, 4] rfl)
          · skip
            subst g30
            refine lv_if_eq (tgt := 70) hx hb dX3_rotaCount_64 (by decide) (fun _ => ?_) (fun c0 => absurd (by decide) c0)
            obtain ⟨t34, et34⟩ : ∃ y : Int32, y = l3_1 + 1 := ⟨_, rfl⟩
            have zt34 : t34.toInt = l3_1.toInt + 1 := by rw [et34]; exact add_i rfl (by decide) (by omega) (by omega)
            refine lv_iinc (v := t34) (lv' := [(3, .int t34), (4, .int t7), (2, .int l2_1), (0, .ref (x 25)), (1, .int p1)]) hx hb dX3_rotaCount_70 hl (k := 1) rfl (by rw [et34]; rfl) (by decide) rfl (fun ls hl => ?_)
            refine lv_goto (tgt := 4) hx hb dX3_rotaCount_73 (by decide) ?_
            have rg35 := fb_rng t34
            exact ih1 l2_1 t34 v28 f29 hIv28 hq0_v28 hq1_v28 hq7_v28 hq8_v28 hq9_v28 hq10_v28 hq31_v28 hq32_v28 ⟨show (0 : Int) ≤ t34.toInt by omega, show t34.toInt ≤ (2147483647 : Int) by omega⟩ hM_v28 hA_f29 (by show (2147483647 - t34.toInt).toNat < n1; omega) _ _ _ hP hD hS (lv_sub hl [0, 2, 3, 4] rfl)
  exact lp1 _ 0 0 v f hIv rfl rfl rfl rfl rfl rfl rfl rfl ⟨by decide, by decide⟩ hM_v hA_f (Nat.lt_succ_self _) _ _ _ hP hD hS (lv_sub hl [0, 1, 2, 3] rfl)
