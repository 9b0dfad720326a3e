section
variable {NF : Nat} {v : Nat → Int32} {f : Nat → Nat → Int32} {v1 : Nat → Int32} {f1 : Nat → Nat → Int32} {w1 : Int64} {g : Nat → Int64} {r r' : Int32} {u : (Nat → Int32) × (Nat → Nat → Int32)} {u' : (Nat → Int32) × (Nat → Nat → Int32) × Int64 × (Nat → Int64)}
theorem not_lt_one {p : Int32} (h : ¬ p < 1) : ¬ p < 0 := fun z => by
  have z' := (fa_lt _ _).mp z
  have c1' : ¬ p.toInt < (1 : Int32).toInt := fun q => h ((fa_lt _ _).mpr q)
  have z0 : (0 : Int32).toInt = 0 := by decide
  have z1 : (1 : Int32).toInt = 1 := by decide
  omega
theorem lt_of_nle {p q : Int32} (h : ¬ p ≤ q) : q < p := (fa_lt _ _).mpr (by
  have z : ¬ p.toInt ≤ q.toInt := fun z => h ((fa_le _ _).mpr z)
  omega)
theorem nle0 {p : Int32} (h : ¬ p < 1) : ¬ p ≤ 0 := fun z => h ((fa_lt _ _).mpr (by
  have z' := (fa_le _ _).mp z
  have z0 : (0 : Int32).toInt = 0 := by decide
  have z1 : (1 : Int32).toInt = 1 := by decide
  omega))
theorem nI_sub_neg (a b : Nat) : nI a - -nI b = nI (a + b) := by
  rw [Int32.sub_eq_add_neg, Int32.neg_neg, nI_add]
theorem nI_add_neg {a b : Nat} (h : b ≤ a) : nI a + -nI b = nI (a - b) := by
  rw [← Int32.sub_eq_add_neg, nI_subI h]
theorem FREL.letout {p1 p2 : Int32} (h : FREL v f v1 f1) (e : gsX_X10_letout_1 NF p1 p2 v f = (r, u)) (e' : gsY_X11_letout_1 NF p1 p2 v1 f1 w1 g = (r', u')) : r = r' ∧ FREL u.1 u.2 u'.1 u'.2.1 := by
  have hh := h
  obtain ⟨hr, a, b, a1, a2, a3, b1, b2, b3, sm, sc, nw, ac, bx⟩ := h
  have bad : gsX_X10_letout_1 NF p1 p2 v f = (-1, v, f) → gsY_X11_letout_1 NF p1 p2 v1 f1 w1 g = (-1, v1, f1, w1, g) → r = r' ∧ FREL u.1 u.2 u'.1 u'.2.1 := fun x y => by
    rw [x] at e
    rw [y] at e'
    cases e; cases e'
    exact ⟨rfl, hh⟩
  rcases in_cases p1 b with ⟨c, hc, rfl⟩ | n1
  · have yc := yIsC1 (NF := NF) (F1 := f1) (W := w1) (G := g) b2 b3 hc
    have xw : gsX_X1_part_1 NF 1 (nI c) v f = f 15 (18 + c) := xPart1 (NF := NF) (F := f) (p := 1) b1 b3 hc (by decide)
    have xs : gsX_X1_part_1 NF 2 (nI c) v f = f 15 (24 + c) := xPart1 (NF := NF) (F := f) (p := 2) b1 b3 hc (by decide)
    have s18 : (18 : Int32) + nI c = nI (18 + c) := nI_add 18 c
    have s24 : (24 : Int32) + nI c = nI (24 + c) := nI_add 24 c
    have c18 : (nI (18 + c)).toNatClampNeg = 18 + c := nI_clamp (by omega)
    have c24 : (nI (24 + c)).toNatClampNeg = 24 + c := nI_clamp (by omega)
    obtain ⟨_, ⟨w1e, W, hW, w2e⟩, ⟨s1e, S, hS, s2e⟩, _⟩ := nw.2.1 c hc
    by_cases c1 : p2 < 1
    · refine bad ?_ ?_
      · simp only [gsX_X10_letout_1, if_pos c1]
      · simp only [gsY_X11_letout_1, yc, ite11, if_true, gsY_X11_isIn_1, if_pos c1, ite01]
    · obtain ⟨P, hP, rfl⟩ := nI_of (not_lt_one c1)
      by_cases c2 : P ≤ S
      · have x2 : nI P ≤ nI S := nI_le c2 (by omega)
        have y2 : ¬ nI S < nI P := nI_nlt c2 (by omega)
        by_cases c3 : W + P ≤ 99
        · have y3 : nI (W + P) ≤ (99 : Int32) := nI_le (b := 99) c3 (by decide)
          have x3 : ¬ (99 : Int32) < nI (W + P) := nI_nlt (a := 99) (b := W + P) (by omega) (by decide)
          have x4 : nI (S - P) ≤ (99 : Int32) := nI_le (b := 99) (by omega) (by decide)
          rcases hk : gsX_X5_keepAct_1 NF v (upd2 f 15 (upd (upd (f 15) (18 + c) (nI (W + P))) (24 + c) (nI (S - P)))) with ⟨V', F'⟩
          rcases ac with ⟨p, d, uu, hp, hdu, h21, h22, h23, h35, rest⟩
          obtain ⟨d', Y, Z, y1, yy2, yy3, y4, y5, y6, y7⟩ := yAct (NF := NF) (F := f1) (W := w1) (G := g) h35 (by omega)
          have z23 : Z 23 = f1 23 := y5 23 (by decide) (by decide)
          have t1 : gsX_X1_setPart_1 NF 1 (nI c) (nI (W + P)) v f = (v, upd2 f 15 (upd (f 15) (18 + c) (nI (W + P)))) := xSetP1 (NF := NF) (F := f) (p := 1) b1 b3 hc (by decide)
          have t2 : gsX_X1_setPart_1 NF 2 (nI c) (nI (S - P)) v (upd2 f 15 (upd (f 15) (18 + c) (nI (W + P)))) = (v, upd2 f 15 (upd (upd (f 15) (18 + c) (nI (W + P))) (24 + c) (nI (S - P)))) := (xSetP1 (NF := NF) (F := upd2 f 15 (upd (f 15) (18 + c) (nI (W + P)))) (p := 2) b1 b3 hc (by decide)).trans (by rw [upd2_2]; rfl)
          have eW : gsX_X10_widen_1 NF (nI c) (nI P) v f = (nI (W + P), V', F') := by
            have q1 : nI W + (nI P) = nI (W + P) := nI_add _ _
            have q2 : nI S - (nI P) = nI (S - P) := nI_subI c2
            simp only [gsX_X10_widen_1, xw, xs, w2e, s2e, q1, q2, if_neg x3, if_pos x4, t1, t2, hk]
          have eX : gsX_X10_letout_1 NF (nI c) (nI P) v f = (nI (W + P), V', F') := by
            simp only [gsX_X10_letout_1, if_neg c1, xs, s2e, if_pos x2, eW]
          have eY : gsY_X11_letout_1 NF (nI c) (nI P) v1 f1 w1 g = (nI (W + P), Y, upd2 Z 23 (upd (upd (Z 23) (24 + c) (nI (S - P))) (18 + c) (nI (W + P))), w1, g) := by
            have k1 : nI S - nI P = nI (S - P) := nI_subI c2
            have k2 : nI W + nI P = nI (W + P) := nI_add _ _
            have kk : nI W + nI P = nI (W + P) := nI_add _ _
            have u1 : ∀ (X : Nat → Int32) (z : Int32), upd X (24 + c) z (18 + c) = X (18 + c) := fun X z => pk_un (by omega)
            simp only [gsY_X11_letout_1, yc, ite11, if_true, gsY_X11_isIn_1, if_neg c1, s18, s24, c18, c24, ← w1e, ← s1e, w2e, s2e, if_neg y2, kk, if_pos y3, y1, z23, u2s, u1, k1, k2, upd2_2, pk_us]
          rw [eX] at e
          rw [eY] at e'
          cases e; cases e'
          refine ⟨rfl, hh.act (F2 := upd2 Z 23 (upd (upd (Z 23) (24 + c) (nI (S - P))) (18 + c) (nI (W + P)))) (fun q _ _ h15 => u2n h15) (fun q _ => rfl) hk y1 (fun q _ _ h23 _ => u2n h23) (fun a' b' a1' _ b1' _ a3' b3' _ _ nw' => ?_)⟩
          have eb : b' = b := (nI_eq (by omega) (by omega)).mp (b1'.symm.trans b1)
          subst eb
          show NWR 999 a' b' (upd (upd (f 15) (18 + c) (nI (W + P))) (24 + c) (nI (S - P))) (upd (upd (Z 23) (24 + c) (nI (S - P))) (18 + c) (nI (W + P)))
          rw [z23, upd_comm (v := f1 23) (show 24 + c ≠ 18 + c by omega)]
          exact (nw'.set a3' b3' (Or.inr (Or.inl rfl)) hc ⟨_, by omega, rfl⟩).set a3' b3' (Or.inr (Or.inr (Or.inl rfl))) hc ⟨_, by omega, rfl⟩
        · refine bad ?_ ?_
          · have eW : gsX_X10_widen_1 NF (nI c) (nI P) v f = (-1, v, f) := by
              have q1 : nI W + (nI P) = nI (W + P) := nI_add _ _
              have q2 : nI S - (nI P) = nI (S - P) := nI_subI c2
              simp only [gsX_X10_widen_1, xw, xs, w2e, s2e, q1, q2]
              rw [if_pos (show (99 : Int32) < nI (W + P) from nI_lt (a := 99) (by omega) (by omega))]
            simp only [gsX_X10_letout_1, if_neg c1, xs, s2e, if_pos x2, eW]
          · have kk : nI W + nI P = nI (W + P) := nI_add _ _
            have y3 : ¬ nI (W + P) ≤ (99 : Int32) := nI_ge (a := 99) (by omega) (by omega)
            simp only [gsY_X11_letout_1, yc, ite11, if_true, gsY_X11_isIn_1, if_neg c1, s18, s24, c18, c24, ← w1e, ← s1e, w2e, s2e, if_neg y2, kk, if_neg y3]
      · have x2 : ¬ nI P ≤ nI S := nI_ge (by omega) hP
        have y2 : nI S < nI P := nI_lt (by omega) hP
        refine bad ?_ ?_
        · simp only [gsX_X10_letout_1, if_neg c1, xs, s2e, if_neg x2]
        · simp only [gsY_X11_letout_1, yc, ite11, if_true, gsY_X11_isIn_1, if_neg c1, s18, s24, c18, c24, ← w1e, ← s1e, w2e, s2e, if_pos y2, ite01]
  · refine bad ?_ ?_
    · simp only [gsX_X10_letout_1, xPart0 (NF := NF) (F := f) b1 n1]
      by_cases c1 : p2 < 1
      · rw [if_pos c1]
      · rw [if_neg c1, if_neg (nle0 c1)]
    · simp only [gsY_X11_letout_1, yIsC0 (NF := NF) (F1 := f1) (W := w1) (G := g) b2 b3 n1, ite01]
theorem FREL.takein {p1 p2 : Int32} (h : FREL v f v1 f1) (e : gsX_X10_takein_1 NF p1 p2 v f = (r, u)) (e' : gsY_X11_takein_1 NF p1 p2 v1 f1 w1 g = (r', u')) : r = r' ∧ FREL u.1 u.2 u'.1 u'.2.1 := by
  have hh := h
  obtain ⟨hr, a, b, a1, a2, a3, b1, b2, b3, sm, sc, nw, ac, bx⟩ := h
  have bad : gsX_X10_takein_1 NF p1 p2 v f = (-1, v, f) → gsY_X11_takein_1 NF p1 p2 v1 f1 w1 g = (-1, v1, f1, w1, g) → r = r' ∧ FREL u.1 u.2 u'.1 u'.2.1 := fun x y => by
    rw [x] at e
    rw [y] at e'
    cases e; cases e'
    exact ⟨rfl, hh⟩
  rcases in_cases p1 b with ⟨c, hc, rfl⟩ | n1
  · have yc := yIsC1 (NF := NF) (F1 := f1) (W := w1) (G := g) b2 b3 hc
    have xw : gsX_X1_part_1 NF 1 (nI c) v f = f 15 (18 + c) := xPart1 (NF := NF) (F := f) (p := 1) b1 b3 hc (by decide)
    have xs : gsX_X1_part_1 NF 2 (nI c) v f = f 15 (24 + c) := xPart1 (NF := NF) (F := f) (p := 2) b1 b3 hc (by decide)
    have s18 : (18 : Int32) + nI c = nI (18 + c) := nI_add 18 c
    have s24 : (24 : Int32) + nI c = nI (24 + c) := nI_add 24 c
    have c18 : (nI (18 + c)).toNatClampNeg = 18 + c := nI_clamp (by omega)
    have c24 : (nI (24 + c)).toNatClampNeg = 24 + c := nI_clamp (by omega)
    obtain ⟨_, ⟨w1e, W, hW, w2e⟩, ⟨s1e, S, hS, s2e⟩, _⟩ := nw.2.1 c hc
    by_cases c1 : p2 < 1
    · refine bad ?_ ?_
      · simp only [gsX_X10_takein_1, if_pos c1]
      · simp only [gsY_X11_takein_1, yc, ite11, if_true, gsY_X11_isIn_1, if_pos c1, ite01]
    · obtain ⟨P, hP, rfl⟩ := nI_of (not_lt_one c1)
      by_cases c2 : P ≤ W
      · have x2 : nI P ≤ nI W := nI_le c2 (by omega)
        have y2 : ¬ nI W < nI P := nI_nlt c2 (by omega)
        by_cases c3 : S + P ≤ 99
        · have y3 : nI (S + P) ≤ (99 : Int32) := nI_le (b := 99) c3 (by decide)
          have x3 : ¬ (99 : Int32) < nI (W - P) := nI_nlt (a := 99) (b := W - P) (by omega) (by decide)
          have x4 : nI (S + P) ≤ (99 : Int32) := nI_le (b := 99) (by omega) (by decide)
          rcases hk : gsX_X5_keepAct_1 NF v (upd2 f 15 (upd (upd (f 15) (18 + c) (nI (W - P))) (24 + c) (nI (S + P)))) with ⟨V', F'⟩
          rcases ac with ⟨p, d, uu, hp, hdu, h21, h22, h23, h35, rest⟩
          obtain ⟨d', Y, Z, y1, yy2, yy3, y4, y5, y6, y7⟩ := yAct (NF := NF) (F := f1) (W := w1) (G := g) h35 (by omega)
          have z23 : Z 23 = f1 23 := y5 23 (by decide) (by decide)
          have t1 : gsX_X1_setPart_1 NF 1 (nI c) (nI (W - P)) v f = (v, upd2 f 15 (upd (f 15) (18 + c) (nI (W - P)))) := xSetP1 (NF := NF) (F := f) (p := 1) b1 b3 hc (by decide)
          have t2 : gsX_X1_setPart_1 NF 2 (nI c) (nI (S + P)) v (upd2 f 15 (upd (f 15) (18 + c) (nI (W - P)))) = (v, upd2 f 15 (upd (upd (f 15) (18 + c) (nI (W - P))) (24 + c) (nI (S + P)))) := (xSetP1 (NF := NF) (F := upd2 f 15 (upd (f 15) (18 + c) (nI (W - P)))) (p := 2) b1 b3 hc (by decide)).trans (by rw [upd2_2]; rfl)
          have eW : gsX_X10_widen_1 NF (nI c) (-nI P) v f = (nI (W - P), V', F') := by
            have q1 : nI W + (-nI P) = nI (W - P) := nI_add_neg c2
            have q2 : nI S - (-nI P) = nI (S + P) := nI_sub_neg _ _
            simp only [gsX_X10_widen_1, xw, xs, w2e, s2e, q1, q2, if_neg x3, if_pos x4, t1, t2, hk]
          have eX : gsX_X10_takein_1 NF (nI c) (nI P) v f = (nI (W - P), V', F') := by
            simp only [gsX_X10_takein_1, if_neg c1, xw, w2e, if_pos x2, eW]
          have eY : gsY_X11_takein_1 NF (nI c) (nI P) v1 f1 w1 g = (nI (W - P), Y, upd2 Z 23 (upd (upd (Z 23) (24 + c) (nI (S + P))) (18 + c) (nI (W - P))), w1, g) := by
            have k1 : nI W - nI P = nI (W - P) := nI_subI c2
            have k2 : nI S + nI P = nI (S + P) := nI_add _ _
            have kk : nI S + nI P = nI (S + P) := nI_add _ _
            have u1 : ∀ (X : Nat → Int32) (z : Int32), upd X (24 + c) z (18 + c) = X (18 + c) := fun X z => pk_un (by omega)
            simp only [gsY_X11_takein_1, yc, ite11, if_true, gsY_X11_isIn_1, if_neg c1, s18, s24, c18, c24, ← w1e, ← s1e, w2e, s2e, if_neg y2, kk, if_pos y3, y1, z23, u2s, u1, k1, k2, upd2_2, pk_us]
          rw [eX] at e
          rw [eY] at e'
          cases e; cases e'
          refine ⟨rfl, hh.act (F2 := upd2 Z 23 (upd (upd (Z 23) (24 + c) (nI (S + P))) (18 + c) (nI (W - P)))) (fun q _ _ h15 => u2n h15) (fun q _ => rfl) hk y1 (fun q _ _ h23 _ => u2n h23) (fun a' b' a1' _ b1' _ a3' b3' _ _ nw' => ?_)⟩
          have eb : b' = b := (nI_eq (by omega) (by omega)).mp (b1'.symm.trans b1)
          subst eb
          show NWR 999 a' b' (upd (upd (f 15) (18 + c) (nI (W - P))) (24 + c) (nI (S + P))) (upd (upd (Z 23) (24 + c) (nI (S + P))) (18 + c) (nI (W - P)))
          rw [z23, upd_comm (v := f1 23) (show 24 + c ≠ 18 + c by omega)]
          exact (nw'.set a3' b3' (Or.inr (Or.inl rfl)) hc ⟨_, by omega, rfl⟩).set a3' b3' (Or.inr (Or.inr (Or.inl rfl))) hc ⟨_, by omega, rfl⟩
        · refine bad ?_ ?_
          · have eW : gsX_X10_widen_1 NF (nI c) (-nI P) v f = (-1, v, f) := by
              have q1 : nI W + (-nI P) = nI (W - P) := nI_add_neg c2
              have q2 : nI S - (-nI P) = nI (S + P) := nI_sub_neg _ _
              simp only [gsX_X10_widen_1, xw, xs, w2e, s2e, q1, q2]
              rw [if_neg (show ¬ (99 : Int32) < nI (W - P) from nI_nlt (a := 99) (by omega) (by decide)), if_neg (show ¬ nI (S + P) ≤ (99 : Int32) from nI_ge (a := 99) (by omega) (by omega))]
            simp only [gsX_X10_takein_1, if_neg c1, xw, w2e, if_pos x2, eW]
          · have kk : nI S + nI P = nI (S + P) := nI_add _ _
            have y3 : ¬ nI (S + P) ≤ (99 : Int32) := nI_ge (a := 99) (by omega) (by omega)
            simp only [gsY_X11_takein_1, yc, ite11, if_true, gsY_X11_isIn_1, if_neg c1, s18, s24, c18, c24, ← w1e, ← s1e, w2e, s2e, if_neg y2, kk, if_neg y3]
      · have x2 : ¬ nI P ≤ nI W := nI_ge (by omega) hP
        have y2 : nI W < nI P := nI_lt (by omega) hP
        refine bad ?_ ?_
        · simp only [gsX_X10_takein_1, if_neg c1, xw, w2e, if_neg x2]
        · simp only [gsY_X11_takein_1, yc, ite11, if_true, gsY_X11_isIn_1, if_neg c1, s18, s24, c18, c24, ← w1e, ← s1e, w2e, s2e, if_pos y2, ite01]
  · refine bad ?_ ?_
    · simp only [gsX_X10_takein_1, xPart0 (NF := NF) (F := f) b1 n1]
      by_cases c1 : p2 < 1
      · rw [if_pos c1]
      · rw [if_neg c1, if_neg (nle0 c1)]
    · simp only [gsY_X11_takein_1, yIsC0 (NF := NF) (F1 := f1) (W := w1) (G := g) b2 b3 n1, ite01]
theorem FREL.turn {p1 : Int32} (h : FREL v f v1 f1) (e : gsX_X10_turn_1 NF p1 v f = (r, u)) (e' : gsY_X11_turn_1 NF p1 v1 f1 w1 g = (r', u')) : r = r' ∧ FREL u.1 u.2 u'.1 u'.2.1 := by
  have hh := h
  obtain ⟨hr, a, b, a1, a2, a3, b1, b2, b3, sm, sc, nw, ac, bx⟩ := h
  have bad : gsX_X10_turn_1 NF p1 v f = (-1, v, f) → gsY_X11_turn_1 NF p1 v1 f1 w1 g = (-1, v1, f1, w1, g) → r = r' ∧ FREL u.1 u.2 u'.1 u'.2.1 := fun x y => by
    rw [x] at e
    rw [y] at e'
    cases e; cases e'
    exact ⟨rfl, hh⟩
  rcases in_cases p1 b with ⟨c, hc, rfl⟩ | n1
  · have yc := yIsC1 (NF := NF) (F1 := f1) (W := w1) (G := g) b2 b3 hc
    have xc := xHasC1 (NF := NF) (F := f) b1 b3 hc
    have x4 : gsX_X1_part_1 NF 4 (nI c) v f = f 15 (36 + c) := xPart1 (NF := NF) (F := f) (p := 4) b1 b3 hc (by decide)
    have x3 : gsX_X1_part_1 NF 3 (nI c) v f = f 15 (30 + c) := xPart1 (NF := NF) (F := f) (p := 3) b1 b3 hc (by decide)
    have s30 : (30 : Int32) + nI c = nI (30 + c) := nI_add 30 c
    have c30 : (nI (30 + c)).toNatClampNeg = 30 + c := nI_clamp (by omega)
    obtain ⟨T, hT, t36, tb⟩ := nw.2.2.1
    obtain ⟨B1, B2⟩ := bitT T hT c (by omega)
    have tc := tb c hc
    obtain ⟨_, _, _, ⟨n1e, N, hN, n2e⟩⟩ := nw.2.1 c hc
    by_cases c0 : T / 2 ^ c % 2 = 0
    · obtain ⟨B3, B4, _⟩ := B2 c0
      have z0 : f 15 (36 + c) = 0 := by rw [tc, c0]; rfl
      rcases hk : gsX_X5_keepAct_1 NF v (upd2 f 15 (upd (upd (f 15) (30 + c) 0) (36 + c) 1)) with ⟨V', F'⟩
      rcases ac with ⟨p, d, uu, hp, hdu, h21, h22, h23, h35, rest⟩
      obtain ⟨d', Y, Z, y1, yy2, yy3, y4, y5, y6, y7⟩ := yAct (NF := NF) (F := f1) (W := w1) (G := g) h35 (by omega)
      have z23 : Z 23 = f1 23 := y5 23 (by decide) (by decide)
      have t1 : gsX_X1_setPart_1 NF 3 (nI c) 0 v f = (v, upd2 f 15 (upd (f 15) (30 + c) 0)) := xSetP1 (NF := NF) (F := f) (p := 3) b1 b3 hc (by decide)
      have t2 : gsX_X1_setPart_1 NF 4 (nI c) 1 v (upd2 f 15 (upd (f 15) (30 + c) 0)) = (v, upd2 f 15 (upd (upd (f 15) (30 + c) 0) (36 + c) 1)) := (xSetP1 (NF := NF) (F := upd2 f 15 (upd (f 15) (30 + c) 0)) (p := 4) b1 b3 hc (by decide)).trans (by rw [upd2_2]; rfl)
      have eX : gsX_X10_turn_1 NF (nI c) v f = (f 15 (30 + c), V', F') := by
        simp only [gsX_X10_turn_1, xc, ite11, if_true, x4, z0, if_true, x3, t1, t2, hk]
      have eY : gsY_X11_turn_1 NF (nI c) v1 f1 w1 g = (f1 23 (30 + c), Y, upd2 Z 23 (upd (upd (Z 23) (30 + c) 0) 36 (nI (T + 2 ^ c))), w1, g) := by
        have u1 : ∀ (X : Nat → Int32) (z : Int32), upd X (30 + c) z 36 = X 36 := fun X z => pk_un (by omega)
        simp only [gsY_X11_turn_1, yc, ite11, if_true, cN36, t36, B1, c0]
        rw [if_neg (show ¬ nI 0 = (1 : Int32) by decide)]
        simp only [y1, s30, c30, z23, u2s, u1, t36, B3, upd2_2]
      rw [eX] at e
      rw [eY] at e'
      cases e; cases e'
      refine ⟨n1e, hh.act (F2 := upd2 Z 23 (upd (upd (Z 23) (30 + c) 0) 36 (nI (T + 2 ^ c)))) (fun q _ _ h15 => u2n h15) (fun q _ => rfl) hk y1 (fun q _ _ h23 _ => u2n h23) (fun a' b' a1' _ b1' _ a3' b3' _ _ nw' => ?_)⟩
      have eb : b' = b := (nI_eq (by omega) (by omega)).mp (b1'.symm.trans b1)
      subst eb
      show NWR 999 a' b' (upd (upd (f 15) (30 + c) 0) (36 + c) 1) (upd (upd (Z 23) (30 + c) 0) 36 (nI (T + 2 ^ c)))
      rw [z23]
      exact (nw'.set a3' b3' (Or.inr (Or.inr (Or.inr rfl))) hc ⟨0, by omega, rfl⟩).turn a3' b3' hc hT ((pk_un (by omega)).trans t36) c0
    · have c1 : T / 2 ^ c % 2 = 1 := by omega
      refine bad ?_ ?_
      · simp only [gsX_X10_turn_1, xc, ite11, if_true, x4, tc, c1]
        rw [if_neg (show ¬ nI 1 = (0 : Int32) by decide)]
      · simp only [gsY_X11_turn_1, yc, ite11, if_true, cN36, t36, B1, c1]
        rw [if_pos (show nI 1 = (1 : Int32) from rfl)]
  · refine bad ?_ ?_
    · simp only [gsX_X10_turn_1, xHasC0 (NF := NF) (F := f) b1 n1, ite01]
    · simp only [gsY_X11_turn_1, yIsC0 (NF := NF) (F1 := f1) (W := w1) (G := g) b2 b3 n1, ite01]
end
