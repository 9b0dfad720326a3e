section
section
variable {NF : Nat} {v : Nat → Int32} {f : Nat → Nat → Int32} {v1 : Nat → Int32} {f1 : Nat → Nat → Int32} {w1 : Int64} {g : Nat → Int64} {r r' : Int32} {u : (Nat → Int32) × (Nat → Nat → Int32)} {u' : (Nat → Int32) × (Nat → Nat → Int32) × Int64 × (Nat → Int64)}
theorem QC.own {a b : Nat} {A R : Nat → Nat → Int32} (Q : QC NF v f v1 f1 w1 g a b A R) {z0 : Nat → Nat → Int32} (hz : ∀ q, q ≠ 7 → q ≠ 8 → z0 q = A q) {m : Nat} (hm : m < a) : (f 15 (6 + m) = -1 ∧ gsY_X11_ownIll_1 NF (nI m) v1 z0 w1 g = (-1, v1, z0, w1, g)) ∨ ∃ c, c < b ∧ f 15 (6 + m) = nI c ∧ ∃ z' : Nat → Nat → Int32, (∀ q, q ≠ 7 → q ≠ 8 → z' q = A q) ∧ gsY_X11_ownIll_1 NF (nI m) v1 z0 w1 g = (R m c, v1, z', w1, g) := by
  have a3 := Q.a3
  have b3 := Q.b3
  have k6 : (6 : Int32) + nI m = nI (6 + m) := nI_add 6 m
  have c6 : (nI (6 + m)).toNatClampNeg = 6 + m := nI_clamp (by omega)
  have y24 : z0 24 = A 24 := hz 24 (by decide) (by decide)
  obtain ⟨_, _, q1, q2⟩ := Q.nw.1 m hm
  rcases q2 with q2 | ⟨c, hc, q2⟩
  · refine Or.inl ⟨q2, ?_⟩
    simp only [gsY_X11_ownIll_1, k6, c6, y24, ← q1, q2, if_neg (show ¬ (0 : Int32) ≤ -1 by decide)]
  · obtain ⟨B, i1, i2, _⟩ := Q.fY z0 hz m c hm hc
    refine Or.inr ⟨c, hc, q2, B, i1, ?_⟩
    simp only [gsY_X11_ownIll_1, k6, c6, y24, ← q1, q2, if_pos (show (0 : Int32) ≤ nI c from nI_pos' (by omega)), i2]
theorem FREL.law {p : Int32} (h : FREL v f v1 f1) (e : gsX_X10_law_1 NF p v f = (r, u)) (e' : gsY_X11_law_1 NF p v1 f1 w1 g = (r', u')) : r = r' := by
  obtain ⟨a, b, A, R, Q⟩ := h.qc (NF := NF) w1 g
  have a3 := Q.a3
  have b3 := Q.b3
  by_cases c0 : p < 0
  · simp only [gsX_X10_law_1, if_pos c0] at e
    simp only [gsY_X11_law_1, gsY_X11_isIn_1, if_pos c0, ite01] at e'
    cases e; cases e'
    rfl
  · by_cases c9 : p ≤ 999
    · have c9' : ¬ (999 : Int32) < p := fun z => by
        have z1 := (fa_le _ _).mp c9
        have z2 := (fa_lt _ _).mp z
        omega
      have X : ∃ y' : Nat → Nat → Int32, (∀ q, q ≠ 13 → q ≠ 14 → y' q = f q) ∧ gsX_X3_fittingBy_1 NF p v f = (nI (cntB (ftB p R (f 15)) a), v, y') := by
        refine accX (NF := NF) (v := v) (f := f) (L := fun fu s i w y => gsX_X3_fittingBy_1_L1 NF p v fu s i w y) (fun j => nI (cntB (ftB p R (f 15)) j)) (by omega) (fun fu j y hj hF => ?_) (fun fu y => ?_) f (fun _ _ _ => rfl)
        · have nle : ¬ nI a ≤ nI j := nI_ge hj (by omega)
          have yw : gsX_X1_wears_1 NF (nI j) v y = f 15 (6 + j) := (xWears1 Q.a1 Q.a3 hj).trans (by rw [hF 15 (by decide) (by decide)])
          rcases (Q.nw.1 j hj).2.2.2 with q2 | ⟨c, hc, q2⟩
          · refine ⟨y, hF, ?_⟩
            show gsX_X3_fittingBy_1_L1 NF p v (fu + 1) (nI (cntB (ftB p R (f 15)) j)) (nI j) v y = gsX_X3_fittingBy_1_L1 NF p v fu (nI (cntB (ftB p R (f 15)) (j + 1))) (nI (j + 1)) v y
            rw [← cntB_0 (p := ftB p R (f 15)) (by unfold ftB; rw [wrB_0 q2, Bool.false_and]; decide)]
            conv => lhs; unfold gsX_X3_fittingBy_1_L1
            simp only [Q.a1, yw, q2, nI_1]
            rw [if_neg nle, if_pos trivial]
          · have w1' := wrB_1 (x := f 15) (m := j) (by rw [q2]; exact nI_nm1 (by omega))
            have ec : nv (f 15 (6 + j)) = c := by rw [q2]; exact nv_nI (by omega)
            have ef : ftB p R (f 15) j = decide (¬ p < R j c) := by unfold ftB; rw [w1', ec, Bool.true_and]
            obtain ⟨B, i1, i2, _⟩ := Q.fX y hF j c hj hc
            refine ⟨B, i1, ?_⟩
            show gsX_X3_fittingBy_1_L1 NF p v (fu + 1) (nI (cntB (ftB p R (f 15)) j)) (nI j) v y = gsX_X3_fittingBy_1_L1 NF p v fu (nI (cntB (ftB p R (f 15)) (j + 1))) (nI (j + 1)) v B
            by_cases z : p < R j c
            · rw [← cntB_0 (p := ftB p R (f 15)) (by rw [ef, decide_eq_false (fun q => q z)]; decide)]
              conv => lhs; unfold gsX_X3_fittingBy_1_L1
              simp only [Q.a1, yw, q2, i2, if_neg (nI_nm1 (show c < 2 ^ 31 by omega)), if_pos z, nI_1]
              rw [if_neg nle]
            · rw [← cntB_1 (p := ftB p R (f 15)) (by rw [ef, decide_eq_true z])]
              conv => lhs; unfold gsX_X3_fittingBy_1_L1
              simp only [Q.a1, yw, q2, i2, if_neg (nI_nm1 (show c < 2 ^ 31 by omega)), if_neg z, nI_1]
              rw [if_neg nle]
        · show gsX_X3_fittingBy_1_L1 NF p v (fu + 1) (nI (cntB (ftB p R (f 15)) a)) (nI a) v y = _
          simp only [gsX_X3_fittingBy_1_L1, Q.a1]
          rw [if_pos (nI_le (Nat.le_refl _) (by omega))]
      have Y : ∃ y' : Nat → Nat → Int32, (∀ q, q ≠ 7 → q ≠ 8 → y' q = A q) ∧ gsY_X11_law_1_L11 NF p v1 (4294967296 + NF) 0 0 v1 A w1 g = (nI (cntB (ftB p R (f 15)) a), v1, y', w1, g) := by
        refine accY (NF := NF) (v1 := v1) (A := A) (w1 := w1) (g := g) (L := fun fu s i w y q q' => gsY_X11_law_1_L11 NF p v1 fu s i w y q q') (fun j => nI (cntB (ftB p R (f 15)) j)) (by omega) (fun fu j y hj hF => ?_) (fun fu y => ?_) A (fun _ _ _ => rfl)
        · have nle : ¬ nI a ≤ nI j := nI_ge hj (by omega)
          rcases Q.own hF hj with ⟨q2, o1⟩ | ⟨c, hc, q2, B, i1, o1⟩
          · refine ⟨y, hF, ?_⟩
            show gsY_X11_law_1_L11 NF p v1 (fu + 1) (nI (cntB (ftB p R (f 15)) j)) (nI j) v1 y w1 g = gsY_X11_law_1_L11 NF p v1 fu (nI (cntB (ftB p R (f 15)) (j + 1))) (nI (j + 1)) v1 y w1 g
            rw [← cntB_0 (p := ftB p R (f 15)) (by unfold ftB; rw [wrB_0 q2, Bool.false_and]; decide)]
            conv => lhs; unfold gsY_X11_law_1_L11
            simp only [Q.a2, o1, if_pos m1_lt, show gsY_X11_truth_1 NF 0 v1 y w1 g = 0 from rfl, nI_add0, nI_1]
            rw [if_neg nle]
          · have w1' := wrB_1 (x := f 15) (m := j) (by rw [q2]; exact nI_nm1 (by omega))
            have ec : nv (f 15 (6 + j)) = c := by rw [q2]; exact nv_nI (by omega)
            have ef : ftB p R (f 15) j = decide (¬ p < R j c) := by unfold ftB; rw [w1', ec, Bool.true_and]
            have ng : ¬ R j c < 0 := fun z => by
              have z1 := (fa_le _ _).mp (Q.rg j c hj hc).1
              have z2 := (fa_lt _ _).mp z
              omega
            rcases Q.own i1 hj with ⟨q3, _⟩ | ⟨c', hc', q3, B', i1', o2⟩
            · exact absurd (q2.symm.trans q3) (nI_nm1 (by omega))
            · have ecc : c' = c := (nI_eq (by omega) (by omega)).mp (q3.symm.trans q2)
              subst ecc
              refine ⟨B', i1', ?_⟩
              show gsY_X11_law_1_L11 NF p v1 (fu + 1) (nI (cntB (ftB p R (f 15)) j)) (nI j) v1 y w1 g = gsY_X11_law_1_L11 NF p v1 fu (nI (cntB (ftB p R (f 15)) (j + 1))) (nI (j + 1)) v1 B' w1 g
              by_cases z : p < R j c'
              · rw [← cntB_0 (p := ftB p R (f 15)) (by rw [ef, decide_eq_false (fun q => q z)]; decide)]
                conv => lhs; unfold gsY_X11_law_1_L11
                simp only [Q.a2, o1, o2, if_neg ng, if_pos z, show gsY_X11_truth_1 NF 0 v1 B' w1 g = 0 from rfl, nI_add0, nI_1]
                rw [if_neg nle]
              · rw [← cntB_1 (p := ftB p R (f 15)) (by rw [ef, decide_eq_true z])]
                conv => lhs; unfold gsY_X11_law_1_L11
                simp only [Q.a2, o1, o2, if_neg ng, if_neg z, show gsY_X11_truth_1 NF 1 v1 B' w1 g = 1 from rfl, nI_1]
                rw [if_neg nle]
        · show gsY_X11_law_1_L11 NF p v1 (fu + 1) (nI (cntB (ftB p R (f 15)) a)) (nI a) v1 y w1 g = _
          simp only [gsY_X11_law_1_L11, Q.a2]
          rw [if_pos (nI_le (Nat.le_refl _) (by omega))]
      obtain ⟨_, _, i2⟩ := X
      obtain ⟨_, _, j2⟩ := Y
      simp only [gsX_X10_law_1, if_neg c0, if_pos c9, i2] at e
      simp only [gsY_X11_law_1, gsY_X11_isIn_1, if_neg c0, if_neg c9', ite11, if_true, Q.fl, j2] at e'
      cases e; cases e'
      rfl
    · have c9' : (999 : Int32) < p := lt_of_nle c9
      simp only [gsX_X10_law_1, if_neg c0, if_neg c9] at e
      simp only [gsY_X11_law_1, gsY_X11_isIn_1, if_neg c0, if_pos c9', ite01] at e'
      cases e; cases e'
      rfl
end
end
section
section
variable {NF : Nat} {v : Nat → Int32} {f : Nat → Nat → Int32} {v1 : Nat → Int32} {f1 : Nat → Nat → Int32} {w1 : Int64} {g : Nat → Int64} {r r' : Int32} {u : (Nat → Int32) × (Nat → Nat → Int32)} {u' : (Nat → Int32) × (Nat → Nat → Int32) × Int64 × (Nat → Int64)}
def mxR (R : Nat → Nat → Int32) (x : Nat → Int32) : Nat → Int32
  | 0 => 0
  | m + 1 => if wrB x m = true then (if mxR R x m < R m (nv (x (6 + m))) then R m (nv (x (6 + m))) else mxR R x m) else mxR R x m
theorem FREL.ease (h : FREL v f v1 f1) (e : gsX_X10_ease_1 NF v f = (r, u)) (e' : gsY_X11_ease_1 NF v1 f1 w1 g = (r', u')) : r = r' := by
  obtain ⟨a, b, A, R, Q⟩ := h.qc (NF := NF) w1 g
  have a3 := Q.a3
  have b3 := Q.b3
  have pos : ∀ j, j ≤ a → 0 ≤ mxR R (f 15) j := by
    intro j
    induction j with
    | zero => intro _; exact (show (0 : Int32) ≤ 0 by decide)
    | succ j ih =>
      intro hj
      have ih := ih (by omega)
      show 0 ≤ (if wrB (f 15) j = true then (if mxR R (f 15) j < R j (nv (f 15 (6 + j))) then R j (nv (f 15 (6 + j))) else mxR R (f 15) j) else mxR R (f 15) j)
      by_cases c : wrB (f 15) j = true
      · rw [if_pos c]
        rcases (Q.nw.1 j (by omega)).2.2.2 with q2 | ⟨k, hk, q2⟩
        · rw [wrB_0 q2] at c; cases c
        · have ec : nv (f 15 (6 + j)) = k := by rw [q2]; exact nv_nI (by omega)
          rw [ec]
          by_cases z : mxR R (f 15) j < R j k
          · rw [if_pos z]; exact (Q.rg j k (by omega) hk).1
          · rw [if_neg z]; exact ih
      · rw [if_neg c]; exact ih
  have X : ∃ y' : Nat → Nat → Int32, (∀ q, q ≠ 13 → q ≠ 14 → y' q = f q) ∧ gsX_X3_worstIllness_1 NF v f = (mxR R (f 15) a, v, y') := by
    refine accX (NF := NF) (v := v) (f := f) (L := fun fu s i w y => gsX_X3_worstIllness_1_L1 NF v fu s i w y) (fun j => mxR R (f 15) j) (by omega) (fun fu j y hj hF => ?_) (fun fu y => ?_) f (fun _ _ _ => rfl)
    · have nle : ¬ nI a ≤ nI j := nI_ge hj (by omega)
      have yw : gsX_X1_wears_1 NF (nI j) v y = f 15 (6 + j) := (xWears1 Q.a1 Q.a3 hj).trans (by rw [hF 15 (by decide) (by decide)])
      have em : mxR R (f 15) (j + 1) = (if wrB (f 15) j = true then (if mxR R (f 15) j < R j (nv (f 15 (6 + j))) then R j (nv (f 15 (6 + j))) else mxR R (f 15) j) else mxR R (f 15) j) := rfl
      rcases (Q.nw.1 j hj).2.2.2 with q2 | ⟨c, hc, q2⟩
      · rw [if_neg (by rw [wrB_0 q2]; decide)] at em
        refine ⟨y, hF, ?_⟩
        show gsX_X3_worstIllness_1_L1 NF v (fu + 1) (mxR R (f 15) j) (nI j) v y = gsX_X3_worstIllness_1_L1 NF v fu (mxR R (f 15) (j + 1)) (nI (j + 1)) v y
        rw [em]
        conv => lhs; unfold gsX_X3_worstIllness_1_L1
        simp only [Q.a1, yw, q2, nI_1]
        rw [if_neg nle, if_pos trivial]
      · have ec : nv (f 15 (6 + j)) = c := by rw [q2]; exact nv_nI (by omega)
        rw [if_pos (wrB_1 (by rw [q2]; exact nI_nm1 (by omega))), ec] at em
        obtain ⟨B, i1, i2, _⟩ := Q.fX y hF j c hj hc
        refine ⟨B, i1, ?_⟩
        show gsX_X3_worstIllness_1_L1 NF v (fu + 1) (mxR R (f 15) j) (nI j) v y = gsX_X3_worstIllness_1_L1 NF v fu (mxR R (f 15) (j + 1)) (nI (j + 1)) v B
        rw [em]
        conv => lhs; unfold gsX_X3_worstIllness_1_L1
        simp only [Q.a1, yw, q2, i2, if_neg (nI_nm1 (show c < 2 ^ 31 by omega)), nI_1]
        rw [if_neg nle]
    · show gsX_X3_worstIllness_1_L1 NF v (fu + 1) (mxR R (f 15) a) (nI a) v y = _
      simp only [gsX_X3_worstIllness_1_L1, Q.a1]
      rw [if_pos (nI_le (Nat.le_refl _) (by omega))]
  have Y : ∃ y' : Nat → Nat → Int32, (∀ q, q ≠ 7 → q ≠ 8 → y' q = A q) ∧ gsY_X11_ease_1_L6 NF v1 (4294967296 + NF) 0 0 v1 A w1 g = (mxR R (f 15) a, v1, y', w1, g) := by
    refine accY (NF := NF) (v1 := v1) (A := A) (w1 := w1) (g := g) (L := fun fu s i w y q q' => gsY_X11_ease_1_L6 NF v1 fu s i w y q q') (fun j => mxR R (f 15) j) (by omega) (fun fu j y hj hF => ?_) (fun fu y => ?_) A (fun _ _ _ => rfl)
    · have nle : ¬ nI a ≤ nI j := nI_ge hj (by omega)
      have em : mxR R (f 15) (j + 1) = (if wrB (f 15) j = true then (if mxR R (f 15) j < R j (nv (f 15 (6 + j))) then R j (nv (f 15 (6 + j))) else mxR R (f 15) j) else mxR R (f 15) j) := rfl
      have pj := (fa_le _ _).mp (pos j (by omega))
      have z0 : (0 : Int32).toInt = 0 := by decide
      rcases Q.own hF hj with ⟨q2, o1⟩ | ⟨c, hc, q2, B, i1, o1⟩
      · rw [if_neg (by rw [wrB_0 q2]; decide)] at em
        refine ⟨y, hF, ?_⟩
        show gsY_X11_ease_1_L6 NF v1 (fu + 1) (mxR R (f 15) j) (nI j) v1 y w1 g = gsY_X11_ease_1_L6 NF v1 fu (mxR R (f 15) (j + 1)) (nI (j + 1)) v1 y w1 g
        rw [em]
        have ng : ¬ mxR R (f 15) j ≤ -1 := fun z => by
          have z1 := (fa_le _ _).mp z
          have z2 : (-1 : Int32).toInt = -1 := by decide
          omega
        conv => lhs; unfold gsY_X11_ease_1_L6
        simp only [Q.a2, o1, gsY_X11_greater_1, if_neg ng, nI_1]
        rw [if_neg nle]
      · have ec : nv (f 15 (6 + j)) = c := by rw [q2]; exact nv_nI (by omega)
        rw [if_pos (wrB_1 (by rw [q2]; exact nI_nm1 (by omega))), ec] at em
        refine ⟨B, i1, ?_⟩
        show gsY_X11_ease_1_L6 NF v1 (fu + 1) (mxR R (f 15) j) (nI j) v1 y w1 g = gsY_X11_ease_1_L6 NF v1 fu (mxR R (f 15) (j + 1)) (nI (j + 1)) v1 B w1 g
        have eg : (if mxR R (f 15) j ≤ R j c then R j c else mxR R (f 15) j) = mxR R (f 15) (j + 1) := by
          rw [em]
          by_cases z : mxR R (f 15) j < R j c
          · have z1 := (fa_lt _ _).mp z
            rw [if_pos z, if_pos ((fa_le _ _).mpr (by omega))]
          · rw [if_neg z]
            by_cases z' : mxR R (f 15) j ≤ R j c
            · rw [if_pos z']
              have z1 := (fa_le _ _).mp z'
              have z2 : ¬ (mxR R (f 15) j).toInt < (R j c).toInt := fun q => z ((fa_lt _ _).mpr q)
              exact Int32.toInt_inj.mp (by omega)
            · rw [if_neg z']
        conv => lhs; unfold gsY_X11_ease_1_L6
        simp only [Q.a2, o1, gsY_X11_greater_1, eg, nI_1]
        rw [if_neg nle]
    · show gsY_X11_ease_1_L6 NF v1 (fu + 1) (mxR R (f 15) a) (nI a) v1 y w1 g = _
      simp only [gsY_X11_ease_1_L6, Q.a2]
      rw [if_pos (nI_le (Nat.le_refl _) (by omega))]
  obtain ⟨_, _, i2⟩ := X
  obtain ⟨_, _, j2⟩ := Y
  simp only [gsX_X10_ease_1, i2] at e
  simp only [gsY_X11_ease_1, Q.fl, j2] at e'
  cases e; cases e'
  rfl
end
end
section
section
variable {NF : Nat}
theorem lsY {x y : Nat} (hx : x < 2 ^ 31) (hy : y < 2 ^ 31) {V : Nat → Int32} {F : Nat → Nat → Int32} {W : Int64} {K : Nat → Int64} : gsY_X11_lesser_1 NF (nI x) (nI y) V F W K = nI (min x y) := by
  simp only [gsY_X11_lesser_1]
  by_cases c : y ≤ x
  · rw [if_pos (nI_le c hx), show min x y = y by omega]
  · rw [if_neg (nI_ge (by omega) hy), show min x y = x by omega]
theorem grY {x y : Nat} (hx : x < 2 ^ 31) (hy : y < 2 ^ 31) {V : Nat → Int32} {F : Nat → Nat → Int32} {W : Int64} {K : Nat → Int64} : gsY_X11_greater_1 NF (nI x) (nI y) V F W K = nI (max x y) := by
  simp only [gsY_X11_greater_1]
  by_cases c : x ≤ y
  · rw [if_pos (nI_le c hy), show max x y = y by omega]
  · rw [if_neg (nI_ge (by omega) hx), show max x y = x by omega]
end
end
