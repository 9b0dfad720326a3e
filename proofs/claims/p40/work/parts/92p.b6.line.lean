section
variable {NF : Nat}
theorem upd2_2 {f : Nat → Nat → Int32} {q : Nat} {a b : Nat → Int32} : upd2 (upd2 f q a) q b = upd2 f q b := by
  funext j
  unfold upd2
  by_cases e : j = q
  · rw [if_pos e, if_pos e]
  · rw [if_neg e, if_neg e, if_neg e]
theorem addManX {v : Nat → Int32} {f : Nat → Nat → Int32} {a : Nat} {x y z : Int32} (h9 : v 9 = nI a) (ha : a < 6) : gsX_X7_addMan_1 NF x y z v f = (upd v 9 (nI (a + 1)), upd2 f 1 (upd (upd (upd (f 1) a x) (6 + a) y) (12 + a) z)) := by
  simp only [gsX_X7_addMan_1, h9]
  rw [if_neg (show ¬ (6 : Int32) ≤ nI a from nI_ge (b := 6) ha (by omega)), nI_1, show (0 : Int32) + nI a = nI (0 + a) from nI_add 0 a, show (6 : Int32) + nI a = nI (6 + a) from nI_add 6 a, show (12 : Int32) + nI a = nI (12 + a) from nI_add 12 a, nI_clamp (by omega), nI_clamp (by omega), nI_clamp (by omega), upd2_2, upd2_2, Nat.zero_add]
  rfl
theorem addCoatX {v : Nat → Int32} {f : Nat → Nat → Int32} {a : Nat} {x y z u : Int32} (h9 : v 10 = nI a) (ha : a < 6) : gsX_X7_addCoat_1 NF x y z u v f = (upd v 10 (nI (a + 1)), upd2 f 2 (upd (upd (upd (upd (f 2) a x) (6 + a) y) (12 + a) z) (18 + a) u)) := by
  simp only [gsX_X7_addCoat_1, h9]
  rw [if_neg (show ¬ (6 : Int32) ≤ nI a from nI_ge (b := 6) ha (by omega)), nI_1, show (0 : Int32) + nI a = nI (0 + a) from nI_add 0 a, show (6 : Int32) + nI a = nI (6 + a) from nI_add 6 a, show (12 : Int32) + nI a = nI (12 + a) from nI_add 12 a, show (18 : Int32) + nI a = nI (18 + a) from nI_add 18 a, nI_clamp (by omega), nI_clamp (by omega), nI_clamp (by omega), nI_clamp (by omega), upd2_2, upd2_2, upd2_2, Nat.zero_add]
  rfl
theorem opt_f {v1 : Nat → Int32} {f1 : Nat → Nat → Int32} {w1 : Int64} {g : Nat → Int64} {j : Int64} {mo : Int32} {s : Nat} (h1 : v1 1 = nI s) (h0 : 0 < s) (hs : s < 100) : gsY_X11_option_1 NF j mo v1 f1 w1 g = (0, v1, f1, w1, g) := by
  simp only [gsY_X11_option_1, h1]
  rw [if_neg (nI_ne0 h0 (by omega))]
theorem optPair {c : Nat → Nat} {n i : Nat} {v : Nat → Int32} {f : Nat → Nat → Int32} {v1 : Nat → Int32} {f1 : Nat → Nat → Int32} {w1 : Int64} {g : Nat → Int64} (hc : ∀ k, k < n → c k < 256) (h : TP c n i v f v1 f1 w1) {k : Nat} (hk1 : 101 ≤ k) (hk2 : k ≤ 121) {j : Int64} (hj : j = wC k) (mo : Int32) (hmo : (0 : Int32) ≤ mo) :
    (∃ (v' v1' : Nat → Int32) (w1' : Int64) (x : Int32) (i' : Nat), (if v 2 = nI k then gsX_X6_labelled_1 NF (nI k) mo v f else (0, v, f)) = (x, v', f) ∧ gsY_X11_option_1 NF j mo v1 f1 w1 g = (x, v1', f1, w1', g) ∧ TP c n i' v' f v1' f1 w1' ∧ (0 ≤ x ∧ x ≤ mo) ∧ X4 v v' ∧ Y4 v1 v1') ∨
    (∃ (v' v1' : Nat → Int32) (w1' : Int64) (y : Int32), (if v 2 = nI k then gsX_X6_labelled_1 NF (nI k) mo v f else (0, v, f)) = (-1, v', f) ∧ gsY_X11_option_1 NF j mo v1 f1 w1 g = (y, v1', f1, w1', g) ∧ FP c n v v' v1 v1') := by
  have hk := tk_lt hc i
  have h' := h
  obtain ⟨T, T1, C, C1, hf⟩ := h
  simp only [gsY_X11_option_1, hf, yIsW hc C1 hk1 hk2 hj, C.1]
  rw [if_pos trivial]
  by_cases e : tk_k c n i = k
  · rw [if_pos e, ite11, if_pos (by rw [e])]
    rcases labPair (NF := NF) (g := g) hc h' hk1 hk2 hj mo with ⟨v2, v3, w3, x, b1, b2, b3, b4, b5, b6⟩ | ⟨v2, v3, w3, y, b1, b2, b3⟩
    · exact Or.inl ⟨v2, v3, w3, x, i + 2, b1, b2, b3, b4, b5, b6⟩
    · exact Or.inr ⟨v2, v3, w3, y, b1, b2, b3⟩
  · rw [if_neg e, ite01, if_neg (fun z => e ((nI_eq (by omega) (by omega)).mp z))]
    exact Or.inl ⟨v, v1, w1, 0, i, rfl, rfl, h', ⟨by decide, hmo⟩, fun _ _ _ _ _ => rfl, fun _ _ _ _ _ => rfl⟩
def MB (x y z : Int32) : Prop := (0 ≤ x ∧ x ≤ 99) ∧ (0 ≤ y ∧ y ≤ 99) ∧ (0 ≤ z ∧ z ≤ 9)
def CB (x y z u : Int32) : Prop := (0 ≤ x ∧ x ≤ 99) ∧ (0 ≤ y ∧ y ≤ 99) ∧ (0 ≤ z ∧ z ≤ 20) ∧ (0 ≤ u ∧ u ≤ 99)
def FRX (v : Nat → Int32) (f : Nat → Nat → Int32) (v' : Nat → Int32) (f' : Nat → Nat → Int32) : Prop := (∀ k, (k ≤ 1 ∨ 18 ≤ k) → v' k = v k) ∧ ∀ q, (q = 0 ∨ q = 5 ∨ q = 6 ∨ 9 ≤ q) → f' q = f q
def FRY (v : Nat → Int32) (f : Nat → Nat → Int32) (v' : Nat → Int32) (f' : Nat → Nat → Int32) : Prop := (∀ k, (k = 0 ∨ k = 4 ∨ k = 9 ∨ k = 12 ∨ k = 16 ∨ (24 ≤ k ∧ k ≤ 29) ∨ 35 ≤ k) → v' k = v k) ∧ ∀ q, (q = 0 ∨ q = 4 ∨ q = 5 ∨ q = 7 ∨ q = 8 ∨ 16 ≤ q) → f' q = f q
def LF (c : Nat → Nat) (n : Nat) (v v1 : Nat → Int32) : Prop := ∃ s j, 0 < s ∧ s < 100 ∧ v 7 = nI s ∧ v1 1 = nI s ∧ v 8 = nI (tk_p c n j) ∧ v1 2 = nI (tk_p c n j)
theorem FP.lf {c : Nat → Nat} {n : Nat} {v v' v1 v1' : Nat → Int32} (h : FP c n v v' v1 v1') : LF c n v' v1' := by
  obtain ⟨s, j, a, b, d, e, z, y, _⟩ := h
  exact ⟨s, j, a, b, d, e, z, y⟩
theorem FP.s {c : Nat → Nat} {n : Nat} {v v' v1 v1' : Nat → Int32} (h : FP c n v v' v1 v1') : ∃ s, 0 < s ∧ s < 100 ∧ v1' 1 = nI s := by
  obtain ⟨s, j, a, b, d, e, _⟩ := h
  exact ⟨s, a, b, e⟩
theorem FP.x {c : Nat → Nat} {n : Nat} {v v' v1 v1' : Nat → Int32} (h : FP c n v v' v1 v1') : X6 v v' := by
  obtain ⟨s, j, a, b, d, e, z, y, x1, y1⟩ := h
  exact x1
theorem FP.y {c : Nat → Nat} {n : Nat} {v v' v1 v1' : Nat → Int32} (h : FP c n v v' v1 v1') : Y6 v1 v1' := by
  obtain ⟨s, j, a, b, d, e, z, y, x1, y1⟩ := h
  exact y1
theorem X6.fr {v v' : Nat → Int32} (h : X6 v v') : ∀ k, (k ≤ 1 ∨ 18 ≤ k) → v' k = v k := fun k hk => h k (by omega) (by omega) (by omega) (by omega) (by omega) (by omega)
theorem X4.x6 {v v' : Nat → Int32} (h : X4 v v') : X6 v v' := fun k a b d e _ _ => h k a b d e
theorem Y4.y6 {v v' : Nat → Int32} (h : Y4 v v') : Y6 v v' := fun k _ _ a b d e => h k a b d e
theorem Y6.fr {v v' : Nat → Int32} (h : Y6 v v') : ∀ k, (k = 0 ∨ k = 4 ∨ k = 9 ∨ k = 12 ∨ k = 16 ∨ (24 ≤ k ∧ k ≤ 29) ∨ 35 ≤ k) → v' k = v k := fun k hk => h k (by omega) (by omega) (by omega) (by omega) (by omega) (by omega)
theorem u2n {f : Nat → Nat → Int32} {q j : Nat} {g : Nat → Int32} (h : j ≠ q) : upd2 f q g j = f j := if_neg h
theorem u2s {f : Nat → Nat → Int32} {q : Nat} {g : Nat → Int32} : upd2 f q g q = g := if_pos rfl
theorem manPair {c : Nat → Nat} {n i : Nat} {v : Nat → Int32} {f : Nat → Nat → Int32} {v1 : Nat → Int32} {f1 : Nat → Nat → Int32} {w1 : Int64} {g : Nat → Int64} (hc : ∀ k, k < n → c k < 256) (h : TP c n i v f v1 f1 w1) (hk1 : tk_k c n i ≠ 1) {a : Nat} (ha : a < 6) (h9 : v 9 = nI a) (h17 : v1 17 = nI a) (hn : ∀ j, j < a → NMx c n (f 7 j) (g (0 + j))) :
    (∃ (v' v1' : Nat → Int32) (w1' : Int64) (i' p : Nat) (x y z : Int32), gsX_X6_manLine_1 NF v f = (1, upd v' 9 (nI (a + 1)), upd2 (upd2 f 7 (upd (f 7) a (nI p))) 1 (upd (upd (upd (f 1) a x) (6 + a) y) (12 + a) z)) ∧ gsY_X11_readMan_1 NF v1 f1 w1 g = (upd v1' 17 (nI (a + 1)), upd2 (upd2 (upd2 f1 9 (upd (f1 9) a x)) 10 (upd (f1 10) a y)) 11 (upd (f1 11) a z), w1', vp_updL g (0 + a) (tk_w c n (i + 1))) ∧ TP c n i' v' f v1' f1 w1' ∧ NMx c n (nI p) (tk_w c n (i + 1)) ∧ X4 v v' ∧ Y4 v1 v1' ∧ MB x y z) ∨
    (∃ (v' v1' : Nat → Int32) (f' f1' : Nat → Nat → Int32) (w1' : Int64) (g' : Nat → Int64), gsX_X6_manLine_1 NF v f = (0, v', f') ∧ gsY_X11_readMan_1 NF v1 f1 w1 g = (v1', f1', w1', g') ∧ FP c n v v' v1 v1' ∧ (∀ q, q ≠ 7 → f' q = f q) ∧ (∀ q, q ≠ 9 → q ≠ 10 → q ≠ 11 → f1' q = f1 q)) := by
  obtain ⟨va, va1, wa, a1, a2, a3, a4, a5⟩ := TP.adv (NF := NF) (g := g) h hk1
  have hN := namePair1 (NF := NF) (g := g) hc h hk1 ha hn
  rw [a1] at hN
  simp only [gsX_X6_manLine_1, gsY_X11_readMan_1, h9, h17, a1, nI_1, nI_clamp (show a < 2 ^ 31 by omega)]
  rw [if_pos (show nI a < (6 : Int32) from nI_lt (b := 6) ha (by omega))]
  have fq : ∀ (A B D : Nat → Int32) (F : Nat → Nat → Int32) q, q ≠ 9 → q ≠ 10 → q ≠ 11 → upd2 (upd2 (upd2 F 9 A) 10 B) 11 D q = F q := fun A B D F q q9 q10 q11 => (u2n q11).trans ((u2n q10).trans (u2n q9))
  rcases hN with ⟨vb, vb1, wb, p, b1, b2, b3, b4, b5, b6⟩ | ⟨vb, vb1, wb, gb, b1, b2, b3⟩
  · have b1 : gsX_X6_name_1 NF (nI a) va f = (1, vb, upd2 f 7 (upd (f 7) a (nI p))) := b1
    have b2 : gsY_X11_newName_1 NF 0 (nI a) v1 f1 w1 g = (vb1, f1, wb, vp_updL g (0 + a) (tk_w c n (i + 1))) := b2
    simp only [b1, b2, ite11]
    generalize hF : upd2 f 7 (upd (f 7) a (nI p)) = F at b3
    generalize hG : vp_updL g (0 + a) (tk_w c n (i + 1)) = G
    have hF1 : F 1 = f 1 := by rw [← hF]; rfl
    have hFq : ∀ q, q ≠ 7 → F q = f q := fun q hq => by rw [← hF]; exact u2n hq
    rcases labPair (NF := NF) (g := G) hc b3 (k := 109) (by decide) (by decide) (j := 1952541804) (by decide +kernel) 99 with ⟨vc, vc1, wc, x, c1, c2, c3, c4, c5, c6⟩ | ⟨vc, vc1, wc, y, c1, c2, c3⟩
    · have c1 : gsX_X6_labelled_1 NF 109 99 vb F = (x, vc, F) := c1
      simp only [c1, c2, if_pos c4.1]
      have t3 : TP c n (i + 2 + 2) vc F vc1 (upd2 f1 9 (upd (f1 9) a x)) wc := ⟨c3.1, c3.2.1.of rfl rfl, c3.2.2⟩
      rcases labPair (NF := NF) (g := G) hc t3 (k := 110) (by decide) (by decide) (j := 2003395685) (by decide +kernel) 99 with ⟨vd, vd1, wd, y, d1, d2, d3, d4, d5, d6⟩ | ⟨vd, vd1, wd, y, d1, d2, d3⟩
      · have d1 : gsX_X6_labelled_1 NF 110 99 vc F = (y, vd, F) := d1
        simp only [d1, d2, if_pos d4.1]
        have t4 : TP c n (i + 2 + 2 + 2) vd F vd1 (upd2 (upd2 f1 9 (upd (f1 9) a x)) 10 (upd (f1 10) a y)) wd := ⟨d3.1, d3.2.1.of rfl rfl, d3.2.2⟩
        have e10 : upd2 f1 9 (upd (f1 9) a x) 10 = f1 10 := rfl
        rw [e10]
        have hX : (if vd 2 = 111 then (match gsX_X6_labelled_1 NF 111 9 vd F with | (r24, v26, f27) => if 0 ≤ r24 then (match gsX_X7_addMan_1 NF x y r24 v26 f27 with | (v30, f31) => ((1 : Int32), v30, f31)) else (0, v26, f27)) else (match gsX_X7_addMan_1 NF x y 0 vd F with | (v22, f23) => (1, v22, f23))) = (match (if vd 2 = nI 111 then gsX_X6_labelled_1 NF (nI 111) 9 vd F else ((0 : Int32), vd, F)) with | (r24, v26, f27) => if 0 ≤ r24 then (match gsX_X7_addMan_1 NF x y r24 v26 f27 with | (v30, f31) => ((1 : Int32), v30, f31)) else (0, v26, f27)) := by
          rw [show (111 : Int32) = nI 111 from rfl]
          by_cases e : vd 2 = nI 111
          · rw [if_pos e, if_pos e]
          · rw [if_neg e, if_neg e]
            show _ = (if (0 : Int32) ≤ 0 then _ else _)
            rw [if_pos (by decide)]
        rw [hX]
        rcases optPair (NF := NF) (g := G) hc t4 (k := 111) (by decide) (by decide) (j := 444301539187) (by decide +kernel) 9 (by decide) with ⟨ve, ve1, we, z, i', e1, e2, e3, e4, e5, e6⟩ | ⟨ve, ve1, we, z, e1, e2, e3⟩
        · simp only [e1, e2, if_pos e4.1]
          have h9e : ve 9 = nI a := (e5 9 (by decide) (by decide) (by decide) (by decide)).trans ((d5 9 (by decide) (by decide) (by decide) (by decide)).trans ((c5 9 (by decide) (by decide) (by decide) (by decide)).trans ((b5 9 (by decide) (by decide) (by decide) (by decide)).trans h9)))
          rw [addManX h9e ha, if_pos e3.2.2.2.2, hF1]
          refine Or.inl ⟨ve, ve1, we, i', p, x, y, z, ?_, ?_, ⟨e3.1.of rfl (by rw [hFq 0 (by decide)]), e3.2.1.of rfl rfl, e3.2.2⟩, b4, ((b5.tr c5).tr d5).tr e5, ((b6.tr c6).tr d6).tr e6, c4, d4, e4⟩
          · rw [if_pos trivial, hF]
          · rfl
        · obtain ⟨s, s0, s1, s2⟩ := e3.s
          simp only [e1, e2]
          rw [if_neg (show ¬ (0 : Int32) ≤ -1 by decide), s2, if_neg (nI_ne0 s0 (by omega))]
          exact Or.inr ⟨ve, ve1, F, _, we, G, rfl, rfl, FP.tr ((b5.tr c5).tr d5) ((b6.tr c6).tr d6) e3, hFq, fun q q9 q10 q11 => fq _ _ _ _ q q9 q10 q11⟩
      · obtain ⟨s, s0, s1, s2⟩ := d3.s
        simp only [d1, d2, show gsX_X6_labelled_1 NF 110 99 vc F = (-1, vd, F) from d1, opt_f (NF := NF) s2 s0 s1]
        rw [if_neg (show ¬ (0 : Int32) ≤ -1 by decide), s2, if_neg (nI_ne0 s0 (by omega))]
        exact Or.inr ⟨vd, vd1, F, _, wd, G, rfl, rfl, FP.tr (b5.tr c5) (b6.tr c6) d3, hFq, fun q q9 q10 q11 => fq _ _ _ _ q q9 q10 q11⟩
    · obtain ⟨s, s0, s1, s2⟩ := c3.s
      simp only [show gsX_X6_labelled_1 NF 109 99 vb F = (-1, vc, F) from c1, c2, told_f (NF := NF) s2 s0 s1, opt_f (NF := NF) s2 s0 s1]
      rw [if_neg (show ¬ (0 : Int32) ≤ -1 by decide), s2, if_neg (nI_ne0 s0 (by omega))]
      exact Or.inr ⟨vc, vc1, F, _, wc, G, rfl, rfl, FP.tr b5 b6 c3, hFq, fun q q9 q10 q11 => fq _ _ _ _ q q9 q10 q11⟩
  · have b1 : gsX_X6_name_1 NF (nI a) va f = (0, vb, f) := b1
    have b2 : gsY_X11_newName_1 NF 0 (nI a) v1 f1 w1 g = (vb1, f1, wb, gb) := b2
    obtain ⟨s, s0, s1, s2⟩ := b3.s
    simp only [b1, b2, ite01, told_f (NF := NF) s2 s0 s1, opt_f (NF := NF) s2 s0 s1]
    rw [s2, if_neg (nI_ne0 s0 (by omega))]
    exact Or.inr ⟨vb, vb1, f, _, wb, gb, rfl, rfl, b3, fun _ _ => rfl, fun q q9 q10 q11 => fq _ _ _ _ q q9 q10 q11⟩
theorem coatPair {c : Nat → Nat} {n i : Nat} {v : Nat → Int32} {f : Nat → Nat → Int32} {v1 : Nat → Int32} {f1 : Nat → Nat → Int32} {w1 : Int64} {g : Nat → Int64} (hc : ∀ k, k < n → c k < 256) (h : TP c n i v f v1 f1 w1) (hk1 : tk_k c n i ≠ 1) {a : Nat} (ha : a < 6) (h9 : v 10 = nI a) (h17 : v1 18 = nI a) (hn : ∀ j, j < a → NMx c n (f 8 j) (g (6 + j))) :
    (∃ (v' v1' : Nat → Int32) (w1' : Int64) (i' p : Nat) (x y z u : Int32), gsX_X6_coatLine_1 NF v f = (1, upd v' 10 (nI (a + 1)), upd2 (upd2 f 8 (upd (f 8) a (nI p))) 2 (upd (upd (upd (upd (f 2) a x) (6 + a) y) (12 + a) z) (18 + a) u)) ∧ gsY_X11_readCoat_1 NF v1 f1 w1 g = (upd v1' 18 (nI (a + 1)), upd2 (upd2 (upd2 (upd2 f1 12 (upd (f1 12) a x)) 13 (upd (f1 13) a y)) 14 (upd (f1 14) a z)) 15 (upd (f1 15) a u), w1', vp_updL g (6 + a) (tk_w c n (i + 1))) ∧ TP c n i' v' f v1' f1 w1' ∧ NMx c n (nI p) (tk_w c n (i + 1)) ∧ X4 v v' ∧ Y4 v1 v1' ∧ CB x y z u) ∨
    (∃ (v' v1' : Nat → Int32) (f' f1' : Nat → Nat → Int32) (w1' : Int64) (g' : Nat → Int64), gsX_X6_coatLine_1 NF v f = (0, v', f') ∧ gsY_X11_readCoat_1 NF v1 f1 w1 g = (v1', f1', w1', g') ∧ FP c n v v' v1 v1' ∧ (∀ q, q ≠ 8 → f' q = f q) ∧ (∀ q, q ≠ 12 → q ≠ 13 → q ≠ 14 → q ≠ 15 → f1' q = f1 q)) := by
  obtain ⟨va, va1, wa, a1, a2, a3, a4, a5⟩ := TP.adv (NF := NF) (g := g) h hk1
  have hN := namePair2 (NF := NF) (g := g) hc h hk1 ha hn
  rw [a1] at hN
  simp only [gsX_X6_coatLine_1, gsY_X11_readCoat_1, h9, h17, a1, nI_1, nI_clamp (show a < 2 ^ 31 by omega)]
  rw [if_pos (show nI a < (6 : Int32) from nI_lt (b := 6) ha (by omega))]
  have fq : ∀ (A B D E : Nat → Int32) (F : Nat → Nat → Int32) q, q ≠ 12 → q ≠ 13 → q ≠ 14 → q ≠ 15 → upd2 (upd2 (upd2 (upd2 F 12 A) 13 B) 14 D) 15 E q = F q := fun A B D E F q q9 q10 q11 q12 => (u2n q12).trans ((u2n q11).trans ((u2n q10).trans (u2n q9)))
  rcases hN with ⟨vb, vb1, wb, p, b1, b2, b3, b4, b5, b6⟩ | ⟨vb, vb1, wb, gb, b1, b2, b3⟩
  · have b1 : gsX_X6_name_2 NF (nI a) va f = (1, vb, upd2 f 8 (upd (f 8) a (nI p))) := b1
    have b2 : gsY_X11_newName_1 NF 6 (nI a) v1 f1 w1 g = (vb1, f1, wb, vp_updL g (6 + a) (tk_w c n (i + 1))) := b2
    simp only [b1, b2, ite11]
    generalize hF : upd2 f 8 (upd (f 8) a (nI p)) = F at b3
    generalize hG : vp_updL g (6 + a) (tk_w c n (i + 1)) = G
    have hF1 : F 2 = f 2 := by rw [← hF]; rfl
    have hFq : ∀ q, q ≠ 8 → F q = f q := fun q hq => by rw [← hF]; exact u2n hq
    rcases labPair (NF := NF) (g := G) hc b3 (k := 109) (by decide) (by decide) (j := 1952541804) (by decide +kernel) 99 with ⟨vc, vc1, wc, x, c1, c2, c3, c4, c5, c6⟩ | ⟨vc, vc1, wc, y, c1, c2, c3⟩
    · have c1 : gsX_X6_labelled_1 NF 109 99 vb F = (x, vc, F) := c1
      simp only [c1, c2, if_pos c4.1]
      have t3 : TP c n (i + 2 + 2) vc F vc1 (upd2 f1 12 (upd (f1 12) a x)) wc := ⟨c3.1, c3.2.1.of rfl rfl, c3.2.2⟩
      rcases labPair (NF := NF) (g := G) hc t3 (k := 110) (by decide) (by decide) (j := 2003395685) (by decide +kernel) 99 with ⟨vd, vd1, wd, y, d1, d2, d3, d4, d5, d6⟩ | ⟨vd, vd1, wd, y, d1, d2, d3⟩
      · have d1 : gsX_X6_labelled_1 NF 110 99 vc F = (y, vd, F) := d1
        simp only [d1, d2, if_pos d4.1]
        have t4 : TP c n (i + 2 + 2 + 2) vd F vd1 (upd2 (upd2 f1 12 (upd (f1 12) a x)) 13 (upd (f1 13) a y)) wd := ⟨d3.1, d3.2.1.of rfl rfl, d3.2.2⟩
        have e10 : upd2 f1 12 (upd (f1 12) a x) 13 = f1 13 := rfl
        rw [e10]
        have hX : ∀ (v17 : Nat → Int32), (if v17 2 = 112 then (match gsX_X6_labelled_1 NF 112 20 v17 F with | (r33, v35, f36) => if 0 ≤ r33 then (if v35 2 = 120 then (match gsX_X6_labelled_1 NF 120 99 v35 f36 with | (r42, v44, f45) => if 0 ≤ r42 then (match gsX_X7_addCoat_1 NF x y r33 r42 v44 f45 with | (v48, f49) => ((1 : Int32), v48, f49)) else (0, v44, f45)) else (match gsX_X7_addCoat_1 NF x y r33 0 v35 f36 with | (v40, f41) => (1, v40, f41))) else (0, v35, f36)) else (if v17 2 = 120 then (match gsX_X6_labelled_1 NF 120 99 v17 F with | (r25, v27, f28) => if 0 ≤ r25 then (match gsX_X7_addCoat_1 NF x y 0 r25 v27 f28 with | (v31, f32) => (1, v31, f32)) else (0, v27, f28)) else (match gsX_X7_addCoat_1 NF x y 0 0 v17 F with | (v23, f24) => (1, v23, f24)))) = (match (if v17 2 = nI 112 then gsX_X6_labelled_1 NF (nI 112) 20 v17 F else ((0 : Int32), v17, F)) with | (r33, v35, f36) => if 0 ≤ r33 then (match (if v35 2 = nI 120 then gsX_X6_labelled_1 NF (nI 120) 99 v35 f36 else ((0 : Int32), v35, f36)) with | (r42, v44, f45) => if 0 ≤ r42 then (match gsX_X7_addCoat_1 NF x y r33 r42 v44 f45 with | (v48, f49) => ((1 : Int32), v48, f49)) else (0, v44, f45)) else (0, v35, f36)) := fun v17 => by
          rw [show (112 : Int32) = nI 112 from rfl, show (120 : Int32) = nI 120 from rfl]
          have in2 : ∀ (r33 : Int32) (v35 : Nat → Int32) (f36 : Nat → Nat → Int32), (if v35 2 = nI 120 then (match gsX_X6_labelled_1 NF (nI 120) 99 v35 f36 with | (r42, v44, f45) => if 0 ≤ r42 then (match gsX_X7_addCoat_1 NF x y r33 r42 v44 f45 with | (v48, f49) => ((1 : Int32), v48, f49)) else (0, v44, f45)) else (match gsX_X7_addCoat_1 NF x y r33 0 v35 f36 with | (v40, f41) => (1, v40, f41))) = (match (if v35 2 = nI 120 then gsX_X6_labelled_1 NF (nI 120) 99 v35 f36 else ((0 : Int32), v35, f36)) with | (r42, v44, f45) => if 0 ≤ r42 then (match gsX_X7_addCoat_1 NF x y r33 r42 v44 f45 with | (v48, f49) => ((1 : Int32), v48, f49)) else (0, v44, f45)) := fun r33 v35 f36 => by
            by_cases e : v35 2 = nI 120
            · rw [if_pos e, if_pos e]
            · rw [if_neg e, if_neg e]
              show _ = (if (0 : Int32) ≤ 0 then _ else _)
              rw [if_pos (by decide)]
          simp only [in2]
          by_cases e : v17 2 = nI 112
          · rw [if_pos e, if_pos e]
          · rw [if_neg e, if_neg e]
            show _ = (if (0 : Int32) ≤ 0 then _ else _)
            rw [if_pos (show (0 : Int32) ≤ 0 by decide)]
        rw [hX]
        rcases optPair (NF := NF) (g := G) hc t4 (k := 112) (by decide) (by decide) (j := 1936023917) (by decide +kernel) 20 (by decide) with ⟨ve, ve1, we, z, i5, e1, e2, e3, e4, e5, e6⟩ | ⟨ve, ve1, we, z, e1, e2, e3⟩
        · simp only [e1, e2, if_pos e4.1]
          have t5 : TP c n i5 ve F ve1 (upd2 (upd2 (upd2 f1 12 (upd (f1 12) a x)) 13 (upd (f1 13) a y)) 14 (upd (f1 14) a z)) we := ⟨e3.1, e3.2.1.of rfl rfl, e3.2.2⟩
          have e11 : upd2 (upd2 f1 12 (upd (f1 12) a x)) 13 (upd (f1 13) a y) 14 = f1 14 := rfl
          rw [e11]
          rcases optPair (NF := NF) (g := G) hc t5 (k := 120) (by decide) (by decide) (j := 2003792494) (by decide +kernel) 99 (by decide) with ⟨vh, vh1, wh, u, i6, k1, k2, k3, k4, k5, k6⟩ | ⟨vh, vh1, wh, u, k1, k2, k3⟩
          · simp only [k1, k2, if_pos k4.1]
            have h9e : vh 10 = nI a := (k5 10 (by decide) (by decide) (by decide) (by decide)).trans ((e5 10 (by decide) (by decide) (by decide) (by decide)).trans ((d5 10 (by decide) (by decide) (by decide) (by decide)).trans ((c5 10 (by decide) (by decide) (by decide) (by decide)).trans ((b5 10 (by decide) (by decide) (by decide) (by decide)).trans h9))))
            rw [addCoatX h9e ha, if_pos k3.2.2.2.2, hF1]
            refine Or.inl ⟨vh, vh1, wh, i6, p, x, y, z, u, ?_, ?_, ⟨k3.1.of rfl (by rw [hFq 0 (by decide)]), k3.2.1.of rfl rfl, k3.2.2⟩, b4, (((b5.tr c5).tr d5).tr e5).tr k5, (((b6.tr c6).tr d6).tr e6).tr k6, c4, d4, e4, k4⟩
            · rw [if_pos trivial, hF]
            · rfl
          · obtain ⟨s, s0, s1, s2⟩ := k3.s
            simp only [k1, k2]
            rw [if_neg (show ¬ (0 : Int32) ≤ -1 by decide), s2, if_neg (nI_ne0 s0 (by omega))]
            exact Or.inr ⟨vh, vh1, F, _, wh, G, rfl, rfl, FP.tr (((b5.tr c5).tr d5).tr e5) (((b6.tr c6).tr d6).tr e6) k3, hFq, fun q q9 q10 q11 q12 => fq _ _ _ _ _ q q9 q10 q11 q12⟩
        · obtain ⟨s, s0, s1, s2⟩ := e3.s
          simp only [e1, e2, opt_f (NF := NF) s2 s0 s1]
          rw [if_neg (show ¬ (0 : Int32) ≤ -1 by decide), s2, if_neg (nI_ne0 s0 (by omega))]
          exact Or.inr ⟨ve, ve1, F, _, we, G, rfl, rfl, FP.tr ((b5.tr c5).tr d5) ((b6.tr c6).tr d6) e3, hFq, fun q q9 q10 q11 q12 => fq _ _ _ _ _ q q9 q10 q11 q12⟩
      · obtain ⟨s, s0, s1, s2⟩ := d3.s
        simp only [d1, d2, show gsX_X6_labelled_1 NF 110 99 vc F = (-1, vd, F) from d1, opt_f (NF := NF) s2 s0 s1]
        rw [if_neg (show ¬ (0 : Int32) ≤ -1 by decide), s2, if_neg (nI_ne0 s0 (by omega))]
        exact Or.inr ⟨vd, vd1, F, _, wd, G, rfl, rfl, FP.tr (b5.tr c5) (b6.tr c6) d3, hFq, fun q q9 q10 q11 q12 => fq _ _ _ _ _ q q9 q10 q11 q12⟩
    · obtain ⟨s, s0, s1, s2⟩ := c3.s
      simp only [show gsX_X6_labelled_1 NF 109 99 vb F = (-1, vc, F) from c1, c2, told_f (NF := NF) s2 s0 s1, opt_f (NF := NF) s2 s0 s1]
      rw [if_neg (show ¬ (0 : Int32) ≤ -1 by decide), s2, if_neg (nI_ne0 s0 (by omega))]
      exact Or.inr ⟨vc, vc1, F, _, wc, G, rfl, rfl, FP.tr b5 b6 c3, hFq, fun q q9 q10 q11 q12 => fq _ _ _ _ _ q q9 q10 q11 q12⟩
  · have b1 : gsX_X6_name_2 NF (nI a) va f = (0, vb, f) := b1
    have b2 : gsY_X11_newName_1 NF 6 (nI a) v1 f1 w1 g = (vb1, f1, wb, gb) := b2
    obtain ⟨s, s0, s1, s2⟩ := b3.s
    simp only [b1, b2, ite01, told_f (NF := NF) s2 s0 s1, opt_f (NF := NF) s2 s0 s1]
    rw [s2, if_neg (nI_ne0 s0 (by omega))]
    exact Or.inr ⟨vb, vb1, f, _, wb, gb, rfl, rfl, b3, fun _ _ => rfl, fun q q9 q10 q11 q12 => fq _ _ _ _ _ q q9 q10 q11 q12⟩
end
