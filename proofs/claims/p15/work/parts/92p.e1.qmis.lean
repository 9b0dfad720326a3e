section
variable {NF : Nat} {v : Nat → Int32} {f : Nat → Nat → Int32} {v1 : Nat → Int32} {f1 : Nat → Nat → Int32} {w1 : Int64} {g : Nat → Int64} {r r' : Int32} {u : (Nat → Int32) × (Nat → Nat → Int32)} {u' : (Nat → Int32) × (Nat → Nat → Int32) × Int64 × (Nat → Int64)}
theorem FREL.misfit {p1 p2 : Int32} (h : FREL v f v1 f1) (e : gsX_X10_misfit_1 NF p1 p2 v f = (r, u)) (e' : gsY_X11_misfit_1 NF p1 p2 v1 f1 w1 g = (r', u')) : r = r' := by
  obtain ⟨hr, a, b, a1, a2, a3, b1, b2, b3, sm, sc, nw, ac, bx⟩ := h
  obtain ⟨A, q1, q2, q3⟩ := yFill (NF := NF) (V := v1) (F0 := f1) (W := w1) (G := g)
  have bad : gsX_X10_misfit_1 NF p1 p2 v f = (-1, v, f) → gsY_X11_misfit_1 NF p1 p2 v1 f1 w1 g = (-1, v1, A, w1, g) → r = r' := fun x y => by
    rw [x] at e
    rw [y] at e'
    cases e; cases e'
    rfl
  rcases in_cases p1 a with ⟨m, hm, rfl⟩ | n1
  · have xm := xHasM1 (NF := NF) (F := f) a1 a3 hm
    have ym := yIsM1 (NF := NF) (F1 := A) (W := w1) (G := g) a2 a3 hm
    rcases in_cases p2 b with ⟨c, hc, rfl⟩ | n2
    · have xc := xHasC1 (NF := NF) (F := f) b1 b3 hc
      have yc := yIsC1 (NF := NF) (F1 := A) (W := w1) (G := g) b2 b3 hc
      obtain ⟨R, B, C, i1, i2, _⟩ := illBoth1 (NF := NF) (F := f) (F1 := A) (w1 := w1) (g := g) a1 a3 b1 b3 sm hr.2.1.2.2 (show 999 ≤ 9999 by decide) (fun _ _ => rfl) (fun q hq => q1 q (by omega)) (nw.cms.cg a3 b3 (fun _ _ => rfl) (fun k hk => q2 k (by omega))) hm hc
      simp only [gsX_X10_misfit_1, xm, xc, ite11, if_true, i1] at e
      simp only [gsY_X11_misfit_1, q3, ym, yc, ite11, if_true, i2] at e'
      cases e; cases e'
      rfl
    · refine bad ?_ ?_
      · simp only [gsX_X10_misfit_1, xm, xHasC0 (NF := NF) (F := f) b1 n2, ite11, if_true, ite01]
      · simp only [gsY_X11_misfit_1, q3, ym, yIsC0 (NF := NF) (F1 := A) (W := w1) (G := g) b2 b3 n2, ite11, if_true, ite01]
  · refine bad ?_ ?_
    · simp only [gsX_X10_misfit_1, xHasM0 (NF := NF) (F := f) a1 n1, ite01]
    · simp only [gsY_X11_misfit_1, q3, yIsM0 (NF := NF) (F1 := A) (W := w1) (G := g) a2 a3 n1, ite01]
end
