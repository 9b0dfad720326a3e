section
section
variable {NF : Nat} {v : Nat → Int32} {f : Nat → Nat → Int32} {v1 : Nat → Int32} {f1 : Nat → Nat → Int32} {w1 : Int64} {g : Nat → Int64} {r r' : Int32} {u : (Nat → Int32) × (Nat → Nat → Int32)} {u' : (Nat → Int32) × (Nat → Nat → Int32) × Int64 × (Nat → Int64)}
theorem FREL.naked (h : FREL v f v1 f1) (e : gsX_X10_naked_1 NF v f = (r, u)) (e' : gsY_X11_naked_1 NF v1 f1 w1 g = (r', u')) : r = r' := by
  obtain ⟨a, b, A, R, Q⟩ := h.qc (NF := NF) w1 g
  have a3 := Q.a3
  have b3 := Q.b3
  generalize hp : (fun j => decide (bts (fB (v 33) R j) b = 0) : Nat → Bool) = p
  have p1 : ∀ j, bts (fB (v 33) R j) b = 0 → p j = true := fun j q => by rw [← hp]; exact decide_eq_true q
  have p0 : ∀ j, ¬ bts (fB (v 33) R j) b = 0 → ¬ p j = true := fun j q => by rw [← hp]; exact fun z => q (of_decide_eq_true z)
  have X : ∃ y' : Nat → Nat → Int32, (∀ q, q ≠ 13 → q ≠ 14 → y' q = f q) ∧ gsX_X10_naked_1_L1 NF v (4294967296 + NF) 0 0 v f = (nI (bts p a), v, y') := by
    refine accX (NF := NF) (v := v) (f := f) (L := fun fu s i w y => gsX_X10_naked_1_L1 NF v fu s i w y) (fun j => nI (bts p j)) (by omega) (fun fu j y hj hF => ?_) (fun fu y => ?_) f (fun _ _ _ => rfl)
    · obtain ⟨o1, o2⟩ := bts_or (p := p) (n := j) (by omega)
      have nle : ¬ nI a ≤ nI j := nI_ge hj (by omega)
      obtain ⟨B, i1, i2⟩ := Q.coatsX hj (y0 := y) hF
      refine ⟨B, i1, ?_⟩
      show gsX_X10_naked_1_L1 NF v (fu + 1) (nI (bts p j)) (nI j) v y = gsX_X10_naked_1_L1 NF v fu (nI (bts p (j + 1))) (nI (j + 1)) v B
      have zz : bts (fB (v 33) R j) b < 2 ^ 31 := (by have h1 := bts_lt (fB (v 33) R j) b b3; have h2 := p2le b b3; omega)
      by_cases z : bts (fB (v 33) R j) b = 0
      · rw [← o1 (p1 j z)]
        rw [z] at i2
        conv => lhs; unfold gsX_X10_naked_1_L1
        simp only [Q.a1, i2, nI_1]
        rw [if_neg nle, if_pos (show nI 0 = (0 : Int32) from rfl)]
      · rw [← (o2 (p0 j z)).2]
        conv => lhs; unfold gsX_X10_naked_1_L1
        simp only [Q.a1, i2, nI_1]
        rw [if_neg nle, if_neg (nI_ne0 (by omega) zz)]
    · show gsX_X10_naked_1_L1 NF v (fu + 1) (nI (bts p a)) (nI a) v y = _
      simp only [gsX_X10_naked_1_L1, Q.a1]
      rw [if_pos (nI_le (Nat.le_refl _) (by omega))]
  have Y : ∃ y' : Nat → Nat → Int32, (∀ q, q ≠ 7 → q ≠ 8 → y' q = A q) ∧ gsY_X11_naked_1_L6 NF v1 (4294967296 + NF) 0 0 v1 A w1 g = (nI (bts p a), v1, y', w1, g) := by
    refine accY (NF := NF) (v1 := v1) (A := A) (w1 := w1) (g := g) (L := fun fu s i w y q q' => gsY_X11_naked_1_L6 NF v1 fu s i w y q q') (fun j => nI (bts p j)) (by omega) (fun fu j y hj hF => ?_) (fun fu y => ?_) A (fun _ _ _ => rfl)
    · obtain ⟨o1, o2⟩ := bts_or (p := p) (n := j) (by omega)
      have nle : ¬ nI a ≤ nI j := nI_ge hj (by omega)
      obtain ⟨B, i1, i2⟩ := Q.coatsY hj (z0 := y) hF
      refine ⟨B, i1, ?_⟩
      show gsY_X11_naked_1_L6 NF v1 (fu + 1) (nI (bts p j)) (nI j) v1 y w1 g = gsY_X11_naked_1_L6 NF v1 fu (nI (bts p (j + 1))) (nI (j + 1)) v1 B w1 g
      have zz : bts (fB (v 33) R j) b < 2 ^ 31 := (by have h1 := bts_lt (fB (v 33) R j) b b3; have h2 := p2le b b3; omega)
      by_cases z : bts (fB (v 33) R j) b = 0
      · rw [← o1 (p1 j z)]
        rw [z] at i2
        conv => lhs; unfold gsY_X11_naked_1_L6
        simp only [Q.a2, i2, show gsY_X11_truth_1 NF 1 v1 B w1 g = 1 from rfl, nI_1]
        rw [if_neg nle, if_pos (show nI 0 = (0 : Int32) from rfl)]
      · rw [← (o2 (p0 j z)).1]
        conv => lhs; unfold gsY_X11_naked_1_L6
        simp only [Q.a2, i2, show gsY_X11_truth_1 NF 0 v1 B w1 g = 0 from rfl, nI_1]
        rw [if_neg nle, if_neg (nI_ne0 (by omega) zz)]
    · show gsY_X11_naked_1_L6 NF v1 (fu + 1) (nI (bts p a)) (nI a) v1 y w1 g = _
      simp only [gsY_X11_naked_1_L6, Q.a2]
      rw [if_pos (nI_le (Nat.le_refl _) (by omega))]
  obtain ⟨_, _, i2⟩ := X
  obtain ⟨_, _, j2⟩ := Y
  simp only [gsX_X10_naked_1, i2] at e
  simp only [gsY_X11_naked_1, Q.fl, j2] at e'
  cases e; cases e'
  rfl
end
end
section
section
variable {NF : Nat}
theorem lsY {x y : Nat} (hx : x < 2 ^ 31) (hy : y < 2 ^ 31) {V : Nat → Int32} {F : Nat → Nat → Int32} {W : Int64} {K : Nat → Int64} : gsY_X11_lesser_1 NF (nI x) (nI y) V F W K = nI (min x y) := by
  simp only [gsY_X11_lesser_1]
  by_cases c : y ≤ x
  · rw [if_pos (nI_le c hx), show min x y = y by omega]
  · rw [if_neg (nI_ge (by omega) hy), show min x y = x by omega]
theorem grY {x y : Nat} (hx : x < 2 ^ 31) (hy : y < 2 ^ 31) {V : Nat → Int32} {F : Nat → Nat → Int32} {W : Int64} {K : Nat → Int64} : gsY_X11_greater_1 NF (nI x) (nI y) V F W K = nI (max x y) := by
  simp only [gsY_X11_greater_1]
  by_cases c : x ≤ y
  · rw [if_pos (nI_le c hy), show max x y = y by omega]
  · rw [if_neg (nI_ge (by omega) hx), show max x y = x by omega]
end
end
