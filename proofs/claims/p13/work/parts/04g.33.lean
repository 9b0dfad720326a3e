def gsY_X11_isName_1 (NF : Nat) (v : Nat → Int32) (f : Nat → Nat → Int32) (w : Int64) (g : Nat → Int64) : Int32 :=
  if (v 5) = 1 then
    if gsY_X11_isOwn_1 NF v f w g = 1 then
      0
    else
      1
  else
    0
theorem gsY_X11_isName_1_q0 {NF : Nat} {v : Nat → Int32} {f : Nat → Nat → Int32} {w : Int64} {g : Nat → Int64} (h0 : ¬ ((v 5) = 1)) : gsY_X11_isName_1 NF v f w g = 0 := by
  simp only [gsY_X11_isName_1, if_neg h0]
theorem gsY_X11_isName_1_q1 {NF : Nat} {v : Nat → Int32} {f : Nat → Nat → Int32} {w : Int64} {g : Nat → Int64} (h0 : ((v 5) = 1)) (h1 : gsY_X11_isOwn_1 NF v f w g = 1) : gsY_X11_isName_1 NF v f w g = 0 := by
  simp only [gsY_X11_isName_1, if_pos h0, h1, ite11, ite01, if_true, if_false]
theorem gsY_X11_isName_1_q2 {NF : Nat} {v : Nat → Int32} {f : Nat → Nat → Int32} {w : Int64} {g : Nat → Int64} (h0 : ((v 5) = 1)) (h1 : gsY_X11_isOwn_1 NF v f w g = 0) : gsY_X11_isName_1 NF v f w g = 1 := by
  simp only [gsY_X11_isName_1, if_pos h0, h1, ite11, ite01, if_true, if_false]
def gsY_X11_newName_1_L14 (NF : Nat) (p1 : Int32) (p2 : Int32) : Nat → (Int32) → (Nat → Int32) → (Nat → Nat → Int32) → (Int64) → (Nat → Int64) → (Nat → Int32) × (Nat → Nat → Int32) × (Int64) × (Nat → Int64)
  | 0, _, _, _, _, _ => ((fun _ => 0), (fun _ _ => 0), 0, (fun _ => 0))
  | n14 + 1, l3_14, v14, f14, w14, g14 =>
    if p2 ≤ l3_14 then
      if (v14 1) ≤ 0 then
        let t19 : Int32 := p1 + p2
        let g21 : Nat → Int64 := vp_updL g14 (t19).toNatClampNeg w14
        match gsY_X11_token_1 NF v14 f14 w14 g21 with
        | (v23, f24, w25, g26) =>
          (v23, f24, w25, g26)
      else
        (v14, f14, w14, g14)
    else
      if (v14 1) = 0 then
        let t49 : Int32 := p1 + l3_14
        let j51 : Int64 := g14 (t49).toNatClampNeg
        let t52 : Int32 := lg_cmp j51 w14
        if t52 = 0 then
          match gsY_X11_wrong_1 NF 3 v14 f14 w14 g14 with
          | (v57, f58, w59, g60) =>
            let t67 : Int32 := l3_14 + 1
            gsY_X11_newName_1_L14 NF p1 p2 n14 t67 v57 f58 w59 g60
        else
          let t54 : Int32 := l3_14 + 1
          gsY_X11_newName_1_L14 NF p1 p2 n14 t54 v14 f14 w14 g14
      else
        if (v14 1) ≤ 0 then
          let t36 : Int32 := p1 + p2
          let g38 : Nat → Int64 := vp_updL g14 (t36).toNatClampNeg w14
          match gsY_X11_token_1 NF v14 f14 w14 g38 with
          | (v40, f41, w42, g43) =>
            (v40, f41, w42, g43)
        else
          (v14, f14, w14, g14)
def gsY_X11_newName_1_L80 (NF : Nat) (p1 : Int32) (p2 : Int32) : Nat → (Int32) → (Nat → Int32) → (Nat → Nat → Int32) → (Int64) → (Nat → Int64) → (Nat → Int32) × (Nat → Nat → Int32) × (Int64) × (Nat → Int64)
  | 0, _, _, _, _, _ => ((fun _ => 0), (fun _ _ => 0), 0, (fun _ => 0))
  | n80 + 1, l3_80, v80, f80, w80, g80 =>
    if p2 ≤ l3_80 then
      if (v80 1) ≤ 0 then
        let t85 : Int32 := p1 + p2
        let g87 : Nat → Int64 := vp_updL g80 (t85).toNatClampNeg w80
        match gsY_X11_token_1 NF v80 f80 w80 g87 with
        | (v89, f90, w91, g92) =>
          (v89, f90, w91, g92)
      else
        (v80, f80, w80, g80)
    else
      if (v80 1) = 0 then
        let t115 : Int32 := p1 + l3_80
        let j117 : Int64 := g80 (t115).toNatClampNeg
        let t118 : Int32 := lg_cmp j117 w80
        if t118 = 0 then
          match gsY_X11_wrong_1 NF 3 v80 f80 w80 g80 with
          | (v123, f124, w125, g126) =>
            let t133 : Int32 := l3_80 + 1
            gsY_X11_newName_1_L80 NF p1 p2 n80 t133 v123 f124 w125 g126
        else
          let t120 : Int32 := l3_80 + 1
          gsY_X11_newName_1_L80 NF p1 p2 n80 t120 v80 f80 w80 g80
      else
        if (v80 1) ≤ 0 then
          let t102 : Int32 := p1 + p2
          let g104 : Nat → Int64 := vp_updL g80 (t102).toNatClampNeg w80
          match gsY_X11_token_1 NF v80 f80 w80 g104 with
          | (v106, f107, w108, g109) =>
            (v106, f107, w108, g109)
        else
          (v80, f80, w80, g80)
def gsY_X11_newName_1 (NF : Nat) (p1 : Int32) (p2 : Int32) (v : Nat → Int32) (f : Nat → Nat → Int32) (w : Int64) (g : Nat → Int64) : (Nat → Int32) × (Nat → Nat → Int32) × (Int64) × (Nat → Int64) :=
  match gsY_X11_token_1 NF v f w g with
  | (v2, f3, w4, g5) =>
    if gsY_X11_isName_1 NF v2 f3 w4 g5 = 1 then
      gsY_X11_newName_1_L14 NF p1 p2 (4294967296 + NF) 0 v2 f3 w4 g5
    else
      match gsY_X11_wrong_1 NF 2 v2 f3 w4 g5 with
      | (v70, f71, w72, g73) =>
        gsY_X11_newName_1_L80 NF p1 p2 (4294967296 + NF) 0 v70 f71 w72 g73
theorem gsY_X11_newName_1_q6 {NF : Nat} {p1 : Int32} {p2 : Int32} {v : Nat → Int32} {f : Nat → Nat → Int32} {w : Int64} {g : Nat → Int64} {v2 : Nat → Int32} {f3 : Nat → Nat → Int32} {w4 : Int64} {g5 : Nat → Int64} (h0 : gsY_X11_token_1 NF v f w g = (v2, f3, w4, g5)) (h1 : gsY_X11_isName_1 NF v2 f3 w4 g5 = 1) : gsY_X11_newName_1 NF p1 p2 v f w g = gsY_X11_newName_1_L14 NF p1 p2 (4294967296 + NF) 0 v2 f3 w4 g5 := by
  simp only [gsY_X11_newName_1, h0, h1, ite11, ite01, if_true, if_false]
theorem gsY_X11_newName_1_q13 {NF : Nat} {p1 : Int32} {p2 : Int32} {v : Nat → Int32} {f : Nat → Nat → Int32} {w : Int64} {g : Nat → Int64} {v2 : Nat → Int32} {f3 : Nat → Nat → Int32} {w4 : Int64} {g5 : Nat → Int64} {v70 : Nat → Int32} {f71 : Nat → Nat → Int32} {w72 : Int64} {g73 : Nat → Int64} (h0 : gsY_X11_token_1 NF v f w g = (v2, f3, w4, g5)) (h1 : gsY_X11_isName_1 NF v2 f3 w4 g5 = 0) (h2 : gsY_X11_wrong_1 NF 2 v2 f3 w4 g5 = (v70, f71, w72, g73)) : gsY_X11_newName_1 NF p1 p2 v f w g = gsY_X11_newName_1_L80 NF p1 p2 (4294967296 + NF) 0 v70 f71 w72 g73 := by
  simp only [gsY_X11_newName_1, h0, h1, h2, ite11, ite01, if_true, if_false]
theorem gsY_X11_newName_1_q0 {NF : Nat} {p1 : Int32} {p2 : Int32} {n14 : Nat} {l3_14 : Int32} {v14 : Nat → Int32} {f14 : Nat → Nat → Int32} {w14 : Int64} {g14 : Nat → Int64} {t19 : Int32} {g21 : Nat → Int64} {v23 : Nat → Int32} {f24 : Nat → Nat → Int32} {w25 : Int64} {g26 : Nat → Int64} (h0 : (p2 ≤ l3_14)) (h1 : ((v14 1) ≤ 0)) (h2 : t19 = p1 + p2) (h3 : g21 = vp_updL g14 (t19).toNatClampNeg w14) (h4 : gsY_X11_token_1 NF v14 f14 w14 g21 = (v23, f24, w25, g26)) : gsY_X11_newName_1_L14 NF p1 p2 (n14 + 1) l3_14 v14 f14 w14 g14 = (v23, f24, w25, g26) := by
  subst h2 h3
  simp only [gsY_X11_newName_1_L14, if_pos h0, if_pos h1, h4]
theorem gsY_X11_newName_1_q1 {NF : Nat} {p1 : Int32} {p2 : Int32} {n14 : Nat} {l3_14 : Int32} {v14 : Nat → Int32} {f14 : Nat → Nat → Int32} {w14 : Int64} {g14 : Nat → Int64} (h0 : (p2 ≤ l3_14)) (h1 : ¬ ((v14 1) ≤ 0)) : gsY_X11_newName_1_L14 NF p1 p2 (n14 + 1) l3_14 v14 f14 w14 g14 = (v14, f14, w14, g14) := by
  simp only [gsY_X11_newName_1_L14, if_pos h0, if_neg h1]
theorem gsY_X11_newName_1_q2 {NF : Nat} {p1 : Int32} {p2 : Int32} {n14 : Nat} {l3_14 : Int32} {v14 : Nat → Int32} {f14 : Nat → Nat → Int32} {w14 : Int64} {g14 : Nat → Int64} {t36 : Int32} {g38 : Nat → Int64} {v40 : Nat → Int32} {f41 : Nat → Nat → Int32} {w42 : Int64} {g43 : Nat → Int64} (h0 : ¬ (p2 ≤ l3_14)) (h1 : ¬ ((v14 1) = 0)) (h2 : ((v14 1) ≤ 0)) (h3 : t36 = p1 + p2) (h4 : g38 = vp_updL g14 (t36).toNatClampNeg w14) (h5 : gsY_X11_token_1 NF v14 f14 w14 g38 = (v40, f41, w42, g43)) : gsY_X11_newName_1_L14 NF p1 p2 (n14 + 1) l3_14 v14 f14 w14 g14 = (v40, f41, w42, g43) := by
  subst h3 h4
  simp only [gsY_X11_newName_1_L14, if_neg h0, if_neg h1, if_pos h2, h5]
theorem gsY_X11_newName_1_q3 {NF : Nat} {p1 : Int32} {p2 : Int32} {n14 : Nat} {l3_14 : Int32} {v14 : Nat → Int32} {f14 : Nat → Nat → Int32} {w14 : Int64} {g14 : Nat → Int64} (h0 : ¬ (p2 ≤ l3_14)) (h1 : ¬ ((v14 1) = 0)) (h2 : ¬ ((v14 1) ≤ 0)) : gsY_X11_newName_1_L14 NF p1 p2 (n14 + 1) l3_14 v14 f14 w14 g14 = (v14, f14, w14, g14) := by
  simp only [gsY_X11_newName_1_L14, if_neg h0, if_neg h1, if_neg h2]
theorem gsY_X11_newName_1_q4 {NF : Nat} {p1 : Int32} {p2 : Int32} {n14 : Nat} {l3_14 : Int32} {v14 : Nat → Int32} {f14 : Nat → Nat → Int32} {w14 : Int64} {g14 : Nat → Int64} {t49 : Int32} {j51 : Int64} {t52 : Int32} {t54 : Int32} (h0 : ¬ (p2 ≤ l3_14)) (h1 : ((v14 1) = 0)) (h2 : t49 = p1 + l3_14) (h3 : j51 = g14 (t49).toNatClampNeg) (h4 : t52 = lg_cmp j51 w14) (h5 : ¬ (t52 = 0)) (h6 : t54 = l3_14 + 1) : gsY_X11_newName_1_L14 NF p1 p2 (n14 + 1) l3_14 v14 f14 w14 g14 = gsY_X11_newName_1_L14 NF p1 p2 n14 t54 v14 f14 w14 g14 := by
  subst h2 h3 h4 h6
  simp only [gsY_X11_newName_1_L14, if_neg h0, if_pos h1, if_neg h5]
theorem gsY_X11_newName_1_q5 {NF : Nat} {p1 : Int32} {p2 : Int32} {n14 : Nat} {l3_14 : Int32} {v14 : Nat → Int32} {f14 : Nat → Nat → Int32} {w14 : Int64} {g14 : Nat → Int64} {t49 : Int32} {j51 : Int64} {t52 : Int32} {v57 : Nat → Int32} {f58 : Nat → Nat → Int32} {w59 : Int64} {g60 : Nat → Int64} {t67 : Int32} (h0 : ¬ (p2 ≤ l3_14)) (h1 : ((v14 1) = 0)) (h2 : t49 = p1 + l3_14) (h3 : j51 = g14 (t49).toNatClampNeg) (h4 : t52 = lg_cmp j51 w14) (h5 : (t52 = 0)) (h6 : gsY_X11_wrong_1 NF 3 v14 f14 w14 g14 = (v57, f58, w59, g60)) (h7 : t67 = l3_14 + 1) : gsY_X11_newName_1_L14 NF p1 p2 (n14 + 1) l3_14 v14 f14 w14 g14 = gsY_X11_newName_1_L14 NF p1 p2 n14 t67 v57 f58 w59 g60 := by
  subst h2 h3 h4 h7
  simp only [gsY_X11_newName_1_L14, if_neg h0, if_pos h1, if_pos h5, h6]
theorem gsY_X11_newName_1_q7 {NF : Nat} {p1 : Int32} {p2 : Int32} {n80 : Nat} {l3_80 : Int32} {v80 : Nat → Int32} {f80 : Nat → Nat → Int32} {w80 : Int64} {g80 : Nat → Int64} {t85 : Int32} {g87 : Nat → Int64} {v89 : Nat → Int32} {f90 : Nat → Nat → Int32} {w91 : Int64} {g92 : Nat → Int64} (h0 : (p2 ≤ l3_80)) (h1 : ((v80 1) ≤ 0)) (h2 : t85 = p1 + p2) (h3 : g87 = vp_updL g80 (t85).toNatClampNeg w80) (h4 : gsY_X11_token_1 NF v80 f80 w80 g87 = (v89, f90, w91, g92)) : gsY_X11_newName_1_L80 NF p1 p2 (n80 + 1) l3_80 v80 f80 w80 g80 = (v89, f90, w91, g92) := by
  subst h2 h3
  simp only [gsY_X11_newName_1_L80, if_pos h0, if_pos h1, h4]
theorem gsY_X11_newName_1_q8 {NF : Nat} {p1 : Int32} {p2 : Int32} {n80 : Nat} {l3_80 : Int32} {v80 : Nat → Int32} {f80 : Nat → Nat → Int32} {w80 : Int64} {g80 : Nat → Int64} (h0 : (p2 ≤ l3_80)) (h1 : ¬ ((v80 1) ≤ 0)) : gsY_X11_newName_1_L80 NF p1 p2 (n80 + 1) l3_80 v80 f80 w80 g80 = (v80, f80, w80, g80) := by
  simp only [gsY_X11_newName_1_L80, if_pos h0, if_neg h1]
theorem gsY_X11_newName_1_q9 {NF : Nat} {p1 : Int32} {p2 : Int32} {n80 : Nat} {l3_80 : Int32} {v80 : Nat → Int32} {f80 : Nat → Nat → Int32} {w80 : Int64} {g80 : Nat → Int64} {t102 : Int32} {g104 : Nat → Int64} {v106 : Nat → Int32} {f107 : Nat → Nat → Int32} {w108 : Int64} {g109 : Nat → Int64} (h0 : ¬ (p2 ≤ l3_80)) (h1 : ¬ ((v80 1) = 0)) (h2 : ((v80 1) ≤ 0)) (h3 : t102 = p1 + p2) (h4 : g104 = vp_updL g80 (t102).toNatClampNeg w80) (h5 : gsY_X11_token_1 NF v80 f80 w80 g104 = (v106, f107, w108, g109)) : gsY_X11_newName_1_L80 NF p1 p2 (n80 + 1) l3_80 v80 f80 w80 g80 = (v106, f107, w108, g109) := by
  subst h3 h4
  simp only [gsY_X11_newName_1_L80, if_neg h0, if_neg h1, if_pos h2, h5]
theorem gsY_X11_newName_1_q10 {NF : Nat} {p1 : Int32} {p2 : Int32} {n80 : Nat} {l3_80 : Int32} {v80 : Nat → Int32} {f80 : Nat → Nat → Int32} {w80 : Int64} {g80 : Nat → Int64} (h0 : ¬ (p2 ≤ l3_80)) (h1 : ¬ ((v80 1) = 0)) (h2 : ¬ ((v80 1) ≤ 0)) : gsY_X11_newName_1_L80 NF p1 p2 (n80 + 1) l3_80 v80 f80 w80 g80 = (v80, f80, w80, g80) := by
  simp only [gsY_X11_newName_1_L80, if_neg h0, if_neg h1, if_neg h2]
theorem gsY_X11_newName_1_q11 {NF : Nat} {p1 : Int32} {p2 : Int32} {n80 : Nat} {l3_80 : Int32} {v80 : Nat → Int32} {f80 : Nat → Nat → Int32} {w80 : Int64} {g80 : Nat → Int64} {t115 : Int32} {j117 : Int64} {t118 : Int32} {t120 : Int32} (h0 : ¬ (p2 ≤ l3_80)) (h1 : ((v80 1) = 0)) (h2 : t115 = p1 + l3_80) (h3 : j117 = g80 (t115).toNatClampNeg) (h4 : t118 = lg_cmp j117 w80) (h5 : ¬ (t118 = 0)) (h6 : t120 = l3_80 + 1) : gsY_X11_newName_1_L80 NF p1 p2 (n80 + 1) l3_80 v80 f80 w80 g80 = gsY_X11_newName_1_L80 NF p1 p2 n80 t120 v80 f80 w80 g80 := by
  subst h2 h3 h4 h6
  simp only [gsY_X11_newName_1_L80, if_neg h0, if_pos h1, if_neg h5]
theorem gsY_X11_newName_1_q12 {NF : Nat} {p1 : Int32} {p2 : Int32} {n80 : Nat} {l3_80 : Int32} {v80 : Nat → Int32} {f80 : Nat → Nat → Int32} {w80 : Int64} {g80 : Nat → Int64} {t115 : Int32} {j117 : Int64} {t118 : Int32} {v123 : Nat → Int32} {f124 : Nat → Nat → Int32} {w125 : Int64} {g126 : Nat → Int64} {t133 : Int32} (h0 : ¬ (p2 ≤ l3_80)) (h1 : ((v80 1) = 0)) (h2 : t115 = p1 + l3_80) (h3 : j117 = g80 (t115).toNatClampNeg) (h4 : t118 = lg_cmp j117 w80) (h5 : (t118 = 0)) (h6 : gsY_X11_wrong_1 NF 3 v80 f80 w80 g80 = (v123, f124, w125, g126)) (h7 : t133 = l3_80 + 1) : gsY_X11_newName_1_L80 NF p1 p2 (n80 + 1) l3_80 v80 f80 w80 g80 = gsY_X11_newName_1_L80 NF p1 p2 n80 t133 v123 f124 w125 g126 := by
  subst h2 h3 h4 h7
  simp only [gsY_X11_newName_1_L80, if_neg h0, if_pos h1, if_pos h5, h6]
def gsY_X11_option_1 (NF : Nat) (j1 : Int64) (p2 : Int32) (v : Nat → Int32) (f : Nat → Nat → Int32) (w : Int64) (g : Nat → Int64) : Int32 × (Nat → Int32) × (Nat → Nat → Int32) × (Int64) × (Nat → Int64) :=
  if (v 1) = 0 then
    if gsY_X11_isWord_1 NF j1 v f w g = 1 then
      match gsY_X11_told_1 NF j1 p2 v f w g with
      | (r5, v7, f8, w9, g10) =>
        (r5, v7, f8, w9, g10)
    else
      (0, v, f, w, g)
  else
    (0, v, f, w, g)
theorem gsY_X11_option_1_q0 {NF : Nat} {j1 : Int64} {p2 : Int32} {v : Nat → Int32} {f : Nat → Nat → Int32} {w : Int64} {g : Nat → Int64} (h0 : ¬ ((v 1) = 0)) : gsY_X11_option_1 NF j1 p2 v f w g = (0, v, f, w, g) := by
  simp only [gsY_X11_option_1, if_neg h0]
theorem gsY_X11_option_1_q1 {NF : Nat} {j1 : Int64} {p2 : Int32} {v : Nat → Int32} {f : Nat → Nat → Int32} {w : Int64} {g : Nat → Int64} {r5 : Int32} {v7 : Nat → Int32} {f8 : Nat → Nat → Int32} {w9 : Int64} {g10 : Nat → Int64} (h0 : ((v 1) = 0)) (h1 : gsY_X11_isWord_1 NF j1 v f w g = 1) (h2 : gsY_X11_told_1 NF j1 p2 v f w g = (r5, v7, f8, w9, g10)) : gsY_X11_option_1 NF j1 p2 v f w g = (r5, v7, f8, w9, g10) := by
  simp only [gsY_X11_option_1, if_pos h0, h1, h2, ite11, ite01, if_true, if_false]
theorem gsY_X11_option_1_q2 {NF : Nat} {j1 : Int64} {p2 : Int32} {v : Nat → Int32} {f : Nat → Nat → Int32} {w : Int64} {g : Nat → Int64} (h0 : ((v 1) = 0)) (h1 : gsY_X11_isWord_1 NF j1 v f w g = 0) : gsY_X11_option_1 NF j1 p2 v f w g = (0, v, f, w, g) := by
  simp only [gsY_X11_option_1, if_pos h0, h1, ite11, ite01, if_true, if_false]
def gsY_X11_readCoat_1 (NF : Nat) (v : Nat → Int32) (f : Nat → Nat → Int32) (w : Int64) (g : Nat → Int64) : (Nat → Int32) × (Nat → Nat → Int32) × (Int64) × (Nat → Int64) :=
  match gsY_X11_newName_1 NF 6 (v 18) v f w g with
  | (v2, f3, w4, g5) =>
    match gsY_X11_told_1 NF (1952541804 : Int64) 99 v2 f3 w4 g5 with
    | (r11, v13, f14, w15, g16) =>
      let f22 : Nat → Nat → Int32 := upd2 f14 12 (upd (f14 12) (v 18).toNatClampNeg r11)
      match gsY_X11_told_1 NF (2003395685 : Int64) 99 v13 f22 w15 g16 with
      | (r23, v25, f26, w27, g28) =>
        let f34 : Nat → Nat → Int32 := upd2 f26 13 (upd (f26 13) (v 18).toNatClampNeg r23)
        match gsY_X11_option_1 NF (1936023917 : Int64) 20 v25 f34 w27 g28 with
        | (r35, v37, f38, w39, g40) =>
          let f46 : Nat → Nat → Int32 := upd2 f38 14 (upd (f38 14) (v 18).toNatClampNeg r35)
          match gsY_X11_option_1 NF (2003792494 : Int64) 99 v37 f46 w39 g40 with
          | (r47, v49, f50, w51, g52) =>
            let f58 : Nat → Nat → Int32 := upd2 f50 15 (upd (f50 15) (v 18).toNatClampNeg r47)
            if (v49 1) = 0 then
              let t60 : Int32 := (v 18) + 1
              ((upd v49 18 t60), f58, w51, g52)
            else
              (v49, f58, w51, g52)
theorem gsY_X11_readCoat_1_q0 {NF : Nat} {v : Nat → Int32} {f : Nat → Nat → Int32} {w : Int64} {g : Nat → Int64} {v2 : Nat → Int32} {f3 : Nat → Nat → Int32} {w4 : Int64} {g5 : Nat → Int64} {r11 : Int32} {v13 : Nat → Int32} {f14 : Nat → Nat → Int32} {w15 : Int64} {g16 : Nat → Int64} {f22 : Nat → Nat → Int32} {r23 : Int32} {v25 : Nat → Int32} {f26 : Nat → Nat → Int32} {w27 : Int64} {g28 : Nat → Int64} {f34 : Nat → Nat → Int32} {r35 : Int32} {v37 : Nat → Int32} {f38 : Nat → Nat → Int32} {w39 : Int64} {g40 : Nat → Int64} {f46 : Nat → Nat → Int32} {r47 : Int32} {v49 : Nat → Int32} {f50 : Nat → Nat → Int32} {w51 : Int64} {g52 : Nat → Int64} {f58 : Nat → Nat → Int32} (h0 : gsY_X11_newName_1 NF 6 (v 18) v f w g = (v2, f3, w4, g5)) (h1 : gsY_X11_told_1 NF (1952541804 : Int64) 99 v2 f3 w4 g5 = (r11, v13, f14, w15, g16)) (h2 : f22 = upd2 f14 12 (upd (f14 12) (v 18).toNatClampNeg r11)) (h3 : gsY_X11_told_1 NF (2003395685 : Int64) 99 v13 f22 w15 g16 = (r23, v25, f26, w27, g28)) (h4 : f34 = upd2 f26 13 (upd (f26 13) (v 18).toNatClampNeg r23)) (h5 : gsY_X11_option_1 NF (1936023917 : Int64) 20 v25 f34 w27 g28 = (r35, v37, f38, w39, g40)) (h6 : f46 = upd2 f38 14 (upd (f38 14) (v 18).toNatClampNeg r35)) (h7 : gsY_X11_option_1 NF (2003792494 : Int64) 99 v37 f46 w39 g40 = (r47, v49, f50, w51, g52)) (h8 : f58 = upd2 f50 15 (upd (f50 15) (v 18).toNatClampNeg r47)) (h9 : ¬ ((v49 1) = 0)) : gsY_X11_readCoat_1 NF v f w g = (v49, f58, w51, g52) := by
  subst h2 h4 h6 h8
  simp only [gsY_X11_readCoat_1, h0, h1, h3, h5, h7, if_neg h9]
theorem gsY_X11_readCoat_1_q1 {NF : Nat} {v : Nat → Int32} {f : Nat → Nat → Int32} {w : Int64} {g : Nat → Int64} {v2 : Nat → Int32} {f3 : Nat → Nat → Int32} {w4 : Int64} {g5 : Nat → Int64} {r11 : Int32} {v13 : Nat → Int32} {f14 : Nat → Nat → Int32} {w15 : Int64} {g16 : Nat → Int64} {f22 : Nat → Nat → Int32} {r23 : Int32} {v25 : Nat → Int32} {f26 : Nat → Nat → Int32} {w27 : Int64} {g28 : Nat → Int64} {f34 : Nat → Nat → Int32} {r35 : Int32} {v37 : Nat → Int32} {f38 : Nat → Nat → Int32} {w39 : Int64} {g40 : Nat → Int64} {f46 : Nat → Nat → Int32} {r47 : Int32} {v49 : Nat → Int32} {f50 : Nat → Nat → Int32} {w51 : Int64} {g52 : Nat → Int64} {f58 : Nat → Nat → Int32} {t60 : Int32} (h0 : gsY_X11_newName_1 NF 6 (v 18) v f w g = (v2, f3, w4, g5)) (h1 : gsY_X11_told_1 NF (1952541804 : Int64) 99 v2 f3 w4 g5 = (r11, v13, f14, w15, g16)) (h2 : f22 = upd2 f14 12 (upd (f14 12) (v 18).toNatClampNeg r11)) (h3 : gsY_X11_told_1 NF (2003395685 : Int64) 99 v13 f22 w15 g16 = (r23, v25, f26, w27, g28)) (h4 : f34 = upd2 f26 13 (upd (f26 13) (v 18).toNatClampNeg r23)) (h5 : gsY_X11_option_1 NF (1936023917 : Int64) 20 v25 f34 w27 g28 = (r35, v37, f38, w39, g40)) (h6 : f46 = upd2 f38 14 (upd (f38 14) (v 18).toNatClampNeg r35)) (h7 : gsY_X11_option_1 NF (2003792494 : Int64) 99 v37 f46 w39 g40 = (r47, v49, f50, w51, g52)) (h8 : f58 = upd2 f50 15 (upd (f50 15) (v 18).toNatClampNeg r47)) (h9 : ((v49 1) = 0)) (h10 : t60 = (v 18) + 1) : gsY_X11_readCoat_1 NF v f w g = ((upd v49 18 t60), f58, w51, g52) := by
  subst h2 h4 h6 h8 h10
  simp only [gsY_X11_readCoat_1, h0, h1, h3, h5, h7, if_pos h9]
