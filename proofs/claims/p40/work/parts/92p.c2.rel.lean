section
variable {NF : Nat} {v : Nat → Int32} {f : Nat → Nat → Int32} {v1 : Nat → Int32} {f1 : Nat → Nat → Int32} {w1 : Int64} {g : Nat → Int64}
def REL (v : Nat → Int32) (f : Nat → Nat → Int32) (v1 : Nat → Int32) (f1 : Nat → Nat → Int32) : Prop := (∃ (c : Nat → Nat) (n : Nat), TAP c n v f v1 f1) ∧ v 7 = v1 1 ∧ v 8 = v1 2
theorem REL.keep {v' : Nat → Int32} {f' : Nat → Nat → Int32} {v1' : Nat → Int32} {f1' : Nat → Nat → Int32} (h : REL v f v1 f1) (a1 : v' 1 = v 1) (a2 : f' 0 = f 0) (a3 : v' 7 = v 7) (a4 : v' 8 = v 8) (b1 : v1' 0 = v1 0) (b2 : f1' 0 = f1 0) (b3 : v1' 1 = v1 1) (b4 : v1' 2 = v1 2) : REL v' f' v1' f1' := by
  obtain ⟨⟨c, n, hn, h1, h2, h3⟩, h4, h5⟩ := h
  exact ⟨⟨c, n, hn, a1.trans h1, b1.trans h2, fun k hk => ⟨(h3 k hk).1, by rw [a2]; exact (h3 k hk).2.1, by rw [b2]; exact (h3 k hk).2.2⟩⟩, (a3.trans h4).trans b3.symm, (a4.trans h5).trans b4.symm⟩
theorem REL.fault (h : REL v f v1 f1) (p : Int32) : gsX_X10_fault_1 NF p v f = gsY_X11_fault_1 NF p v1 f1 w1 g := by
  simp only [gsX_X10_fault_1, gsY_X11_fault_1, h.2.1, h.2.2]
theorem TAP.less {c : Nat → Nat} {n m : Nat} (h : TAP c n v f v1 f1) (hm : m ≤ n) : TAP c m (upd v 1 (nI m)) f (upd v1 0 (nI m)) f1 :=
  ⟨Nat.le_trans hm h.1, rfl, rfl, fun k hk => h.2.2.2 k (Nat.lt_of_lt_of_le hk hm)⟩
theorem REL.ends {p r r' : Int32} {u : (Nat → Int32) × (Nat → Nat → Int32)} {u' : (Nat → Int32) × (Nat → Nat → Int32) × Int64 × (Nat → Int64)} (h : REL v f v1 f1) (e : gsX_X10_end_1 NF p v f = (r, u)) (e' : gsY_X11_end_1 NF p v1 f1 w1 g = (r', u')) : r = r' ∧ REL u.1 u.2 u'.1 u'.2.1 := by
  obtain ⟨⟨c, n, t⟩, h4, h5⟩ := h
  simp only [gsX_X10_end_1, t.2.1] at e
  simp only [gsY_X11_end_1, t.2.2.1] at e'
  by_cases c1 : p < 0
  · rw [if_pos c1] at e e'
    cases e; cases e'
    exact ⟨rfl, ⟨c, n, t⟩, h4, h5⟩
  · rw [if_neg c1] at e e'
    by_cases c2 : p ≤ nI n
    · rw [if_pos c2] at e e'
      cases e; cases e'
      obtain ⟨m, hm, rfl⟩ := nI_of c1
      exact ⟨rfl, ⟨c, m, t.less ((nI_leI hm (by have := t.1; omega)).mp c2)⟩, h4, h5⟩
    · rw [if_neg c2] at e e'
      cases e; cases e'
      exact ⟨rfl, ⟨c, n, t⟩, h4, h5⟩
theorem bfacts (q : Int32) : ∃ b, b < 256 ∧ q &&& 255 = nI b ∧ vp_nar .byte q.toInt8.toInt32 = sb_b b := by
  have hr : 0 ≤ (q &&& 255).toInt ∧ (q &&& 255).toInt < 256 := and_rng q (m := 255) (k := 8) (by decide) (by decide)
  obtain ⟨b, hb, e⟩ := nI_ofI hr.1
  have hb2 : b < 256 := by
    have h1 := hr.2
    rw [e, nI_toInt hb] at h1
    omega
  refine ⟨b, hb2, e, ?_⟩
  show q.toInt8.toInt32.toInt8.toInt32 = (nI b).toInt8.toInt32
  rw [Int8.toInt8_toInt32, ← e, Int32.toInt8_and, show (255 : Int32).toInt8 = -1 from by decide, Int8.and_neg_one]
theorem TAP.byte {c : Nat → Nat} {n : Nat} (h : TAP c n v f v1 f1) (hn : n < 1600) (q : Int32) : ∃ c', TAP c' (n + 1) (upd v 1 (v 1 + 1)) (upd2 f 0 (upd (f 0) (v 1).toNatClampNeg (vp_nar .byte q.toInt8.toInt32))) (upd v1 0 (v1 0 + 1)) (upd2 f1 0 (upd (f1 0) (v1 0).toNatClampNeg (q &&& 255))) := by
  obtain ⟨b, hb, e1, e2⟩ := bfacts q
  obtain ⟨_, h1, h2, h3⟩ := h
  rw [e1, e2, h1, h2, nI_clamp (by omega), nI_1]
  refine ⟨fun k => if k = n then b else c k, by omega, rfl, rfl, fun k hk => ?_⟩
  show (if k = n then b else c k) < 256 ∧ (if k = n then sb_b b else f 0 k) = sb_b (if k = n then b else c k) ∧ (if k = n then nI b else f1 0 k) = nI (if k = n then b else c k)
  by_cases e : k = n
  · rw [if_pos e, if_pos e, if_pos e]; exact ⟨hb, rfl, rfl⟩
  · rw [if_neg e, if_neg e, if_neg e]; exact h3 k (by omega)
theorem sh8 : ∀ j, j < 4 → ¬ nI (8 * (j + 1)) + (-8) < (0 : Int32) ∧ nI (8 * (j + 1)) + (-8) + (-8) = nI (8 * j) + (-8) := by decide +kernel
theorem appLoop (p : Int32) : ∀ (j fu fu1 n : Nat) (c : Nat → Nat) (v : Nat → Int32) (f : Nat → Nat → Int32) (v1 : Nat → Int32) (f1 : Nat → Nat → Int32), j ≤ 4 → j < fu → j < fu1 → n + j ≤ 1600 → TAP c n v f v1 f1 → ∃ (c' : Nat → Nat) (v' : Nat → Int32) (f' : Nat → Nat → Int32) (v1' : Nat → Int32) (f1' : Nat → Nat → Int32), gsX_X9_append_1_L1 NF p fu (nI (8 * j) + (-8)) v f = (v', f') ∧ gsY_X11_four_1_L1 NF p fu1 (nI (8 * j) + (-8)) v1 f1 w1 g = (v1', f1', w1, g) ∧ TAP c' (n + j) v' f' v1' f1' ∧ v' 7 = v 7 ∧ v' 8 = v 8 ∧ v1' 1 = v1 1 ∧ v1' 2 = v1 2 := by
  intro j
  induction j with
  | zero =>
    intro fu fu1 n c v f v1 f1 _ h1 h2 _ h
    obtain ⟨fu, rfl⟩ : ∃ z, fu = z + 1 := ⟨fu - 1, by omega⟩
    obtain ⟨fu1, rfl⟩ : ∃ z, fu1 = z + 1 := ⟨fu1 - 1, by omega⟩
    have l0 : nI (8 * 0) + (-8) < (0 : Int32) := by decide
    refine ⟨c, v, f, v1, f1, ?_, ?_, h, rfl, rfl, rfl, rfl⟩
    · simp only [gsX_X9_append_1_L1]
      exact if_pos l0
    · simp only [gsY_X11_four_1_L1]
      exact if_pos l0
  | succ j ih =>
    intro fu fu1 n c v f v1 f1 h4 h1 h2 h3 h
    obtain ⟨fu, rfl⟩ : ∃ z, fu = z + 1 := ⟨fu - 1, by omega⟩
    obtain ⟨fu1, rfl⟩ : ∃ z, fu1 = z + 1 := ⟨fu1 - 1, by omega⟩
    obtain ⟨l1, l2⟩ := sh8 j (by omega)
    have l3 : ¬ (1600 : Int32) ≤ v 1 := by
      rw [h.2.1]
      exact nI_ge (b := 1600) (by omega) (by omega)
    obtain ⟨c2, t2⟩ := h.byte (by omega) (p >>> ((nI (8 * (j + 1)) + (-8)) &&& 31))
    obtain ⟨c', v', f', v1', f1', e1, e2, t', k1, k2, k3, k4⟩ := ih fu fu1 (n + 1) c2 _ _ _ _ (by omega) (by omega) (by omega) (by omega) t2
    refine ⟨c', v', f', v1', f1', ?_, ?_, ?_, k1, k2, k3, k4⟩
    · simp only [gsX_X9_append_1_L1]
      rw [if_neg l1, if_neg l3, l2]
      exact e1
    · simp only [gsY_X11_four_1_L1]
      rw [if_neg l1, l2]
      exact e2
    · rw [show n + (j + 1) = n + 1 + j by omega]
      exact t'
theorem appPair {c : Nat → Nat} {n : Nat} (p : Int32) (h : TAP c n v f v1 f1) (hn : n + 4 ≤ 1600) : ∃ (c' : Nat → Nat) (v' : Nat → Int32) (f' : Nat → Nat → Int32) (v1' : Nat → Int32) (f1' : Nat → Nat → Int32), gsX_X9_append_1 NF p v f = (v', f') ∧ gsY_X11_four_1 NF p v1 f1 w1 g = (v1', f1', w1, g) ∧ TAP c' (n + 4) v' f' v1' f1' ∧ v' 7 = v 7 ∧ v' 8 = v 8 ∧ v1' 1 = v1 1 ∧ v1' 2 = v1 2 := by
  have q := appLoop (NF := NF) (w1 := w1) (g := g) p 4 (4294967296 + NF) (4294967296 + NF) n c v f v1 f1 (by omega) (by omega) (by omega) hn h
  rw [show nI (8 * 4) + (-8) = (24 : Int32) from by decide] at q
  exact q
theorem REL.feed {p1 p2 p3 p4 p5 r r' : Int32} {u : (Nat → Int32) × (Nat → Nat → Int32)} {u' : (Nat → Int32) × (Nat → Nat → Int32) × Int64 × (Nat → Int64)} (h : REL v f v1 f1) (e : gsX_X10_feed_1 NF p1 p2 p3 p4 p5 v f = (r, u)) (e' : gsY_X11_feed_1 NF p1 p2 p3 p4 p5 v1 f1 w1 g = (r', u')) : r = r' ∧ REL u.1 u.2 u'.1 u'.2.1 := by
  obtain ⟨⟨c, n, t⟩, h4, h5⟩ := h
  have hn := t.1
  have e20 : nI n + 20 = nI (n + 20) := nI_add n 20
  simp only [gsX_X10_feed_1, gsX_X9_hasRoom_1, t.2.1, e20] at e
  simp only [gsY_X11_feed_1, t.2.2.1, e20] at e'
  by_cases c1 : n + 20 ≤ 1600
  · rw [if_neg (show ¬ (1600 : Int32) < nI (n + 20) from nI_nlt (a := 1600) c1 (by decide)), ite11] at e
    rw [if_pos (show nI (n + 20) ≤ (1600 : Int32) from nI_le (b := 1600) c1 (by decide))] at e'
    obtain ⟨d1, x1, y1, z1, s1, m1, o1, t1, a1, b1, i1, j1⟩ := appPair (NF := NF) (w1 := w1) (g := g) p1 t (by omega)
    obtain ⟨d2, x2, y2, z2, s2, m2, o2, t2, a2, b2, i2, j2⟩ := appPair (NF := NF) (w1 := w1) (g := g) p2 t1 (by omega)
    obtain ⟨d3, x3, y3, z3, s3, m3, o3, t3, a3, b3, i3, j3⟩ := appPair (NF := NF) (w1 := w1) (g := g) p3 t2 (by omega)
    obtain ⟨d4, x4, y4, z4, s4, m4, o4, t4, a4, b4, i4, j4⟩ := appPair (NF := NF) (w1 := w1) (g := g) p4 t3 (by omega)
    obtain ⟨d5, x5, y5, z5, s5, m5, o5, t5, a5, b5, i5, j5⟩ := appPair (NF := NF) (w1 := w1) (g := g) p5 t4 (by omega)
    simp only [m1, m2, m3, m4, m5] at e
    simp only [o1, o2, o3, o4, o5] at e'
    cases e; cases e'
    refine ⟨t5.2.1.trans t5.2.2.1.symm, ⟨d5, _, t5⟩, ?_, ?_⟩
    · show x5 7 = z5 1
      rw [a5, a4, a3, a2, a1, i5, i4, i3, i2, i1]; exact h4
    · show x5 8 = z5 2
      rw [b5, b4, b3, b2, b1, j5, j4, j3, j2, j1]; exact h5
  · rw [if_pos (show (1600 : Int32) < nI (n + 20) from nI_lt (a := 1600) (by omega) (by omega)), ite01] at e
    rw [if_neg (show ¬ nI (n + 20) ≤ (1600 : Int32) from nI_ge (a := 1600) (by omega) (by omega))] at e'
    cases e; cases e'
    exact ⟨rfl, ⟨c, n, t⟩, h4, h5⟩
theorem n0_of {x : Int32} (h : x.toInt = 0) : x = nI 0 := Int32.toInt_inj.mp (h.trans (by decide))
theorem REL.reg {r r' : Int32} {u : (Nat → Int32) × (Nat → Nat → Int32)} {u' : (Nat → Int32) × (Nat → Nat → Int32) × Int64 × (Nat → Int64)} (h : REL v f v1 f1) (e : gsX_X10_regiment_1 NF v f = (r, u)) (z0 : (u.1 1).toInt = 0) (a7 : u.1 7 = (gsX_X6_read_1 NF v f).2.1 7) (a8 : u.1 8 = (gsX_X6_read_1 NF v f).2.1 8) (e' : gsY_X11_regiment_1 NF v1 f1 w1 g = (r', u')) (z1 : (u'.1 0).toInt = 0) (b1 : u'.1 1 = (gsY_X11_readAll_1 NF v1 f1 w1 g).1 1) (b2 : u'.1 2 = (gsY_X11_readAll_1 NF v1 f1 w1 g).1 2) (b3 : r' = (gsY_X11_readAll_1 NF v1 f1 w1 g).1 17 ∨ ¬ (gsY_X11_readAll_1 NF v1 f1 w1 g).1 1 ≤ 0) : r = r' ∧ REL u.1 u.2 u'.1 u'.2.1 := by
  obtain ⟨⟨c, n, t⟩, _, _⟩ := h
  have T0 : ∃ (c : Nat → Nat) (n : Nat), TAP c n u.1 u.2 u'.1 u'.2.1 := ⟨c, 0, Nat.zero_le _, n0_of z0, n0_of z1, fun k hk => absurd hk (Nat.not_lt_zero _)⟩
  rcases readPair (NF := NF) (w1 := w1) (g := g) t with ⟨v', f', v1', f1', w1', g', i', a', b', t', e1, e2, lr⟩ | ⟨v', f', v1', f1', w1', g', e1, e2, lf⟩
  · rw [e1] at a7 a8
    rw [e2] at b1 b2 b3
    have y1 : v1' 1 = 0 := lr.1.2.2.2.2
    have r17 : r' = v1' 17 := by
      rcases b3 with q | q
      · exact q
      · exact absurd (show v1' 1 ≤ 0 from (fa_le _ _).mpr (Int.le_of_eq (congrArg Int32.toInt y1))) q
    rcases hc : gsX_X7_copy_1 NF (upd v' 1 0) f' with ⟨v7, f8⟩
    rcases hm : gsX_X1_muster_1 NF v7 f8 with ⟨v10, f11⟩
    rcases hf : gsX_X5_forgetAll_1 NF v10 f11 with ⟨v13, f14⟩
    rcases h0 : gsX_X0_clear_1 NF v13 f14 with ⟨v16, f17⟩
    rcases h8 : gsX_X8_clear_1 NF v16 f17 with ⟨v19, f20⟩
    simp only [gsX_X10_regiment_1, e1, ite11, if_true, hc, hm, hf, h0, h8] at e
    have hr := congrArg (fun z => z.1) e
    have hr : v7 31 = r := hr
    have h31 := congrArg (fun z => z.1 31) hc
    have h31 : v' 9 = v7 31 := h31
    refine ⟨?_, T0, ?_, ?_⟩
    · rw [← hr, ← h31, r17, lr.2.2.1.1, lr.2.2.1.2.1]
    · rw [a7, b1]
      exact lr.2.1.1.trans y1.symm
    · rw [a8, b2]
      exact lr.2.1.2.1.trans lr.2.1.2.2.symm
  · obtain ⟨s, j, s0, s1, q1, q2, q3, q4⟩ := lf
    rw [e1] at a7 a8
    rw [e2] at b1 b2
    simp only [gsX_X10_regiment_1, e1, ite01] at e
    have hr := congrArg (fun z => z.1) e
    have hr : (-1 : Int32) = r := hr
    simp only [gsY_X11_regiment_1, e2] at e'
    rw [if_neg (show ¬ v1' 1 ≤ (0 : Int32) from by rw [q2]; exact nI_nle s0 (by omega))] at e'
    have hr' := congrArg (fun z => z.1) e'
    have hr' : (-1 : Int32) = r' := hr'
    refine ⟨hr.symm.trans hr', T0, ?_, ?_⟩
    · rw [a7, b1]
      exact q1.trans q2.symm
    · rw [a8, b2]
      exact q3.trans q4.symm
end
