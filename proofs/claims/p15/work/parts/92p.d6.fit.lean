section
variable {NF : Nat}
def CMS (D a b : Nat) (x y : Nat → Int32) : Prop := (∀ m, m < a → x m = y m ∧ NBx 99 (x m)) ∧ (∀ c, c < b → (x (12 + c) = y (12 + c) ∧ NBx 99 (x (12 + c))) ∧ (x (18 + c) = y (18 + c) ∧ NBx 99 (x (18 + c))) ∧ (x (30 + c) = y (30 + c) ∧ NBx 99 (x (30 + c)))) ∧ x 42 = y 37 ∧ NBx D (x 42)
theorem NWR.cms {D a b : Nat} {x y : Nat → Int32} (h : NWR D a b x y) : CMS D a b x y :=
  ⟨fun m hm => ⟨(h.1 m hm).1, (h.1 m hm).2.1⟩, fun c hc => ⟨(h.2.1 c hc).1, (h.2.1 c hc).2.1, (h.2.1 c hc).2.2.2⟩, h.2.2.2.1.1, h.2.2.2.1.2⟩
theorem CMS.cg {D a b : Nat} {x y x' y' : Nat → Int32} (h : CMS D a b x y) (ha : a ≤ 6) (hb : b ≤ 6) (hx : ∀ k, (k < 6 ∨ (12 ≤ k ∧ k < 44)) → x' k = x k) (hy : ∀ k, (k < 6 ∨ (12 ≤ k ∧ k < 39)) → y' k = y k) : CMS D a b x' y' := by
  obtain ⟨h1, h2, h3, h4⟩ := h
  refine ⟨fun m hm => ?_, fun c hc => ?_, ?_, ?_⟩
  · rw [hx m (by omega), hy m (by omega)]; exact h1 m hm
  · rw [hx (12 + c) (by omega), hx (18 + c) (by omega), hx (30 + c) (by omega), hy (12 + c) (by omega), hy (18 + c) (by omega), hy (30 + c) (by omega)]; exact h2 c hc
  · rw [hx 42 (by decide), hy 37 (by decide)]; exact h3
  · rw [hx 42 (by decide)]; exact h4
def yI (NF : Nat) (v1 : Nat → Int32) (F1 : Nat → Nat → Int32) (w1 : Int64) (g : Nat → Int64) (m c : Nat) : Int32 := (gsY_X11_misfitOf_1 NF (nI m) (nI c) v1 F1 w1 g).1
theorem illBoth1 {v : Nat → Int32} {f F : Nat → Nat → Int32} {v1 : Nat → Int32} {f1 F1 : Nat → Nat → Int32} {w1 : Int64} {g : Nat → Int64} {a b m c D : Nat} (a1 : v 31 = nI a) (a3 : a ≤ 6) (b1 : v 32 = nI b) (b3 : b ≤ 6) (sm : STM f f1 a) (sf : STF v f v1 f1) (hD : D ≤ 9999) (hF : ∀ q, q = 9 ∨ q = 11 ∨ q = 12 → F q = f q) (hF1 : ∀ q, q = 4 ∨ q = 5 ∨ q = 16 → F1 q = f1 q) (hn : CMS D a b (F 15) (F1 24)) (hm : m < a) (hc : c < b) : ∃ (r : Int32) (F' F1' : Nat → Nat → Int32), gsX_X1_illness_1 NF (nI m) (nI c) v F = (r, v, F') ∧ gsY_X11_misfitOf_1 NF (nI m) (nI c) v1 F1 w1 g = (r, v1, F1', w1, g) ∧ (∀ q, q ≠ 13 → q ≠ 14 → F' q = F q) ∧ (∀ q, q ≠ 7 → q ≠ 8 → F1' q = F1 q) ∧ (0 ≤ r ∧ r ≤ 999) := by
  obtain ⟨n1, n2, n3, d6, hd6, ed6⟩ := hn
  obtain ⟨m1, d2, hd2, ed2⟩ := n1 m hm
  obtain ⟨⟨k1, d3, hd3, ed3⟩, ⟨k2, d4, hd4, ed4⟩, ⟨k3, d5, hd5, ed5⟩⟩ := n2 c hc
  obtain ⟨t1, _, _, tb⟩ := sm m hm
  obtain ⟨d1, hd1, ed1⟩ := NBx.of (n := 99) rfl (by decide) tb.1
  have x1 : gsX_X7_manPart_1 NF 0 (nI m) v F = nI d1 := by
    have q : gsX_X7_manPart_1 NF 0 (nI m) v F = F 9 (0 * 6 + m) := xManP (p := 0) a1 a3 hm (by decide)
    rw [q, hF 9 (Or.inl rfl), Nat.zero_mul, Nat.zero_add]
    exact ed1
  have x2 : gsX_X1_manWide_1 NF (nI m) v F = nI d2 := (xWide1 a1 a3 hm).trans ed2
  have x3 : gsX_X1_part_1 NF 0 (nI c) v F = nI d3 := (show gsX_X1_part_1 NF 0 (nI c) v F = F 15 (12 + c) from xPart1 (p := 0) b1 b3 hc (by decide)).trans ed3
  have x4 : gsX_X1_part_1 NF 1 (nI c) v F = nI d4 := (show gsX_X1_part_1 NF 1 (nI c) v F = F 15 (18 + c) from xPart1 (p := 1) b1 b3 hc (by decide)).trans ed4
  have x5 : gsX_X1_part_1 NF 3 (nI c) v F = nI d5 := (show gsX_X1_part_1 NF 3 (nI c) v F = F 15 (30 + c) from xPart1 (p := 3) b1 b3 hc (by decide)).trans ed5
  have x6 : gsX_X1_today_1 NF v F = nI d6 := by
    simp only [gsX_X1_today_1, cN42]
    exact ed6
  obtain ⟨G, g1, g2⟩ := worthX (NF := NF) (P1 := d1) (P2 := d2) (P3 := d3) (P4 := d4) (P5 := d5) (P6 := d6) (by omega) (by omega) (by omega) (by omega) (by omega) (v := v) (f := F)
  obtain ⟨G1, g3, g4⟩ := misfY (NF := NF) (P1 := d1) (P2 := d2) (P3 := d3) (P4 := d4) (P5 := d5) (P6 := d6) (m := m) (c := c) (by omega) (by omega) (by omega) (by omega) (by omega) (by omega) (by omega) (v1 := v1) (f1 := F1) (w1 := w1) (g := g) (by rw [hF1 16 (Or.inr (Or.inr rfl)), ← t1]; exact ed1) (by rw [← m1]; exact ed2) (by rw [← k1]; exact ed3) (by rw [← k2]; exact ed4) (by rw [← k3]; exact ed5) (by rw [← n3]; exact ed6)
  have sf' : STF v F v1 F1 := by
    unfold STF
    rw [hF 11 (Or.inr (Or.inl rfl)), hF 12 (Or.inr (Or.inr rfl)), hF1 4 (Or.inl rfl), hF1 5 (Or.inr (Or.inl rfl))]
    exact sf
  have hA : agr 6 G G1 := by
    obtain ⟨p0, p1, p2, p3, p4, p5⟩ := g1
    obtain ⟨q0, q1, q2, q3, q4, q5⟩ := g3
    intro k hk
    rcases (show k = 0 ∨ k = 1 ∨ k = 2 ∨ k = 3 ∨ k = 4 ∨ k = 5 by omega) with e | e | e | e | e | e <;> subst e
    · exact p0.trans q0.symm
    · exact p1.trans q1.symm
    · exact p2.trans q2.symm
    · exact p3.trans q3.symm
    · exact p4.trans q4.symm
    · exact p5.trans q5.symm
  obtain ⟨r, A, B, e1, e2, e3, e4, e5⟩ := evPair (NF := NF) (w1 := w1) (g := g) sf' hA (df9_rng (dfI d1 d2 d3 d4 d5) (by unfold dfI; omega))
  refine ⟨r, A, B, ?_, g4.trans e2, e3, e4, e5⟩
  simp only [gsX_X1_illness_1, x1, x2, x3, x4, x5, x6, g2, e1]
theorem fitX1 {v : Nat → Int32} {f F : Nat → Nat → Int32} {v1 : Nat → Int32} {f1 F1 : Nat → Nat → Int32} {w1 : Int64} {g : Nat → Int64} {a b m c D : Nat} (a1 : v 31 = nI a) (a3 : a ≤ 6) (b1 : v 32 = nI b) (b3 : b ≤ 6) (sm : STM f f1 a) (sf : STF v f v1 f1) (hD : D ≤ 9999) (hF : ∀ q, q = 9 ∨ q = 11 ∨ q = 12 → F q = f q) (hF1 : ∀ q, q = 4 ∨ q = 5 ∨ q = 16 → F1 q = f1 q) (hn : CMS D a b (F 15) (F1 24)) (hm : m < a) (hc : c < b) : ∃ F' : Nat → Nat → Int32, gsX_X1_illness_1 NF (nI m) (nI c) v F = (yI NF v1 F1 w1 g m c, v, F') ∧ gsX_X1_fits_1 NF (nI m) (nI c) v F = ((if v 33 < yI NF v1 F1 w1 g m c then 0 else 1), v, F') ∧ (∀ q, q ≠ 13 → q ≠ 14 → F' q = F q) := by
  obtain ⟨r, A, B, e1, e2, e3, _, _⟩ := illBoth1 (NF := NF) (w1 := w1) (g := g) a1 a3 b1 b3 sm sf hD hF hF1 hn hm hc
  have er : yI NF v1 F1 w1 g m c = r := by unfold yI; rw [e2]
  rw [er]
  refine ⟨A, e1, ?_, e3⟩
  simp only [gsX_X1_fits_1, xHasM1 (NF := NF) (F := F) a1 a3 hm, xHasC1 (NF := NF) (F := F) b1 b3 hc, ite11, if_true, e1]
  by_cases z : v 33 < r
  · rw [if_pos z, if_pos z]
  · rw [if_neg z, if_neg z]
theorem fitX01 {v : Nat → Int32} {F : Nat → Nat → Int32} {a b m : Nat} (a1 : v 31 = nI a) (a3 : a ≤ 6) (b1 : v 32 = nI b) (b3 : b ≤ 6) (hm : m < a) : gsX_X1_fits_1 NF (nI m) (-1) v F = (0, v, F) := by
  have q : gsX_X7_hasCoat_1 NF (-1) v F = 0 := xHasC0 b1 (fun ⟨P, hP, z⟩ => nI_nm1 (show P < 2 ^ 31 by omega) z.symm)
  simp only [gsX_X1_fits_1, xHasM1 (NF := NF) (F := F) a1 a3 hm, q, ite11, if_true, ite01]
end
section
variable {NF : Nat}
theorem illY {v : Nat → Int32} {f : Nat → Nat → Int32} {v1 : Nat → Int32} {f1 F1 F2 : Nat → Nat → Int32} {w1 : Int64} {g : Nat → Int64} {a b m c D : Nat} (a1 : v 31 = nI a) (a3 : a ≤ 6) (b1 : v 32 = nI b) (b3 : b ≤ 6) (sm : STM f f1 a) (sf : STF v f v1 f1) (hD : D ≤ 9999) (hF1 : ∀ q, q = 4 ∨ q = 5 ∨ q = 16 → F1 q = f1 q) (hF2 : ∀ q, q = 4 ∨ q = 5 ∨ q = 16 → F2 q = f1 q) {x : Nat → Int32} (hn : CMS D a b x (F1 24)) (hn2 : CMS D a b x (F2 24)) (hm : m < a) (hc : c < b) : ∃ F' : Nat → Nat → Int32, gsY_X11_misfitOf_1 NF (nI m) (nI c) v1 F2 w1 g = (yI NF v1 F1 w1 g m c, v1, F', w1, g) ∧ gsY_X11_fits_1 NF (nI m) (nI c) v1 F2 w1 g = ((if v1 26 < yI NF v1 F1 w1 g m c then 0 else 1), v1, F', w1, g) ∧ (∀ q, q ≠ 7 → q ≠ 8 → F' q = F2 q) ∧ (0 ≤ yI NF v1 F1 w1 g m c ∧ yI NF v1 F1 w1 g m c ≤ 999) := by
  obtain ⟨r, A, B, e1, e2, e3, e4, e5⟩ := illBoth1 (NF := NF) (w1 := w1) (g := g) (F := upd2 f 15 x) a1 a3 b1 b3 sm sf hD (fun q hq => u2n (by omega)) hF1 hn hm hc
  obtain ⟨r', A', B', e1', e2', e3', e4', e5'⟩ := illBoth1 (NF := NF) (w1 := w1) (g := g) (F := upd2 f 15 x) a1 a3 b1 b3 sm sf hD (fun q hq => u2n (by omega)) hF2 hn2 hm hc
  have er : yI NF v1 F1 w1 g m c = r := by unfold yI; rw [e2]
  have rr : r' = r := by
    rw [e1] at e1'
    exact (congrArg (fun z => z.1) e1').symm
  rw [er, ← rr]
  refine ⟨B', e2', ?_, e4', e5'⟩
  simp only [gsY_X11_fits_1, if_neg (show ¬ nI c < (0 : Int32) from nI_pos (by omega)), e2']
  by_cases z : v1 26 < r'
  · rw [if_pos z, if_pos z]
  · rw [if_neg z, if_neg z]
end
