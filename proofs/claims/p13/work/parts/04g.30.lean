def gsY_X11_countUnit_1 (NF : Nat) (v : Nat → Int32) (f : Nat → Nat → Int32) (w : Int64) (g : Nat → Int64) : (Nat → Int32) × (Nat → Nat → Int32) × (Int64) × (Nat → Int64) :=
  let t1 : Int32 := (v 11) + 1
  let t2 : Int32 := (v 13) + 1
  ((upd (upd v 11 t1) 13 t2), f, w, g)
theorem gsY_X11_countUnit_1_q0 {NF : Nat} {v : Nat → Int32} {f : Nat → Nat → Int32} {w : Int64} {g : Nat → Int64} {t1 : Int32} {t2 : Int32} (h0 : t1 = (v 11) + 1) (h1 : t2 = (v 13) + 1) : gsY_X11_countUnit_1 NF v f w g = ((upd (upd v 11 t1) 13 t2), f, w, g) := by
  subst h0 h1
  simp only [gsY_X11_countUnit_1]
def gsY_X11_add_1 (NF : Nat) (p1 : Int32) (p2 : Int32) (v : Nat → Int32) (f : Nat → Nat → Int32) (w : Int64) (g : Nat → Int64) : (Nat → Int32) × (Nat → Nat → Int32) × (Int64) × (Nat → Int64) :=
  let f1 : Nat → Nat → Int32 := upd2 f 2 (upd (f 2) (v 8).toNatClampNeg p1)
  let f2 : Nat → Nat → Int32 := upd2 f1 3 (upd (f1 3) (v 8).toNatClampNeg p2)
  let t3 : Int32 := (v 8) + 1
  ((upd v 8 t3), f2, w, g)
theorem gsY_X11_add_1_q0 {NF : Nat} {p1 : Int32} {p2 : Int32} {v : Nat → Int32} {f : Nat → Nat → Int32} {w : Int64} {g : Nat → Int64} {f1 : Nat → Nat → Int32} {f2 : Nat → Nat → Int32} {t3 : Int32} (h0 : f1 = upd2 f 2 (upd (f 2) (v 8).toNatClampNeg p1)) (h1 : f2 = upd2 f1 3 (upd (f1 3) (v 8).toNatClampNeg p2)) (h2 : t3 = (v 8) + 1) : gsY_X11_add_1 NF p1 p2 v f w g = ((upd v 8 t3), f2, w, g) := by
  subst h0 h1 h2
  simp only [gsY_X11_add_1]
def gsY_X11_isFull_1 (NF : Nat) (v : Nat → Int32) (f : Nat → Nat → Int32) (w : Int64) (g : Nat → Int64) : Int32 :=
  if (v 11) = 60 then
    1
  else
    if (v 13) = 30 then
      1
    else
      0
theorem gsY_X11_isFull_1_q0 {NF : Nat} {v : Nat → Int32} {f : Nat → Nat → Int32} {w : Int64} {g : Nat → Int64} (h0 : ((v 11) = 60)) : gsY_X11_isFull_1 NF v f w g = 1 := by
  simp only [gsY_X11_isFull_1, if_pos h0]
theorem gsY_X11_isFull_1_q1 {NF : Nat} {v : Nat → Int32} {f : Nat → Nat → Int32} {w : Int64} {g : Nat → Int64} (h0 : ¬ ((v 11) = 60)) (h1 : ¬ ((v 13) = 30)) : gsY_X11_isFull_1 NF v f w g = 0 := by
  simp only [gsY_X11_isFull_1, if_neg h0, if_neg h1]
theorem gsY_X11_isFull_1_q2 {NF : Nat} {v : Nat → Int32} {f : Nat → Nat → Int32} {w : Int64} {g : Nat → Int64} (h0 : ¬ ((v 11) = 60)) (h1 : ((v 13) = 30)) : gsY_X11_isFull_1 NF v f w g = 1 := by
  simp only [gsY_X11_isFull_1, if_neg h0, if_pos h1]
def gsY_X11_openUp_1 (NF : Nat) (p1 : Int32) (v : Nat → Int32) (f : Nat → Nat → Int32) (w : Int64) (g : Nat → Int64) : (Nat → Int32) × (Nat → Nat → Int32) × (Int64) × (Nat → Int64) :=
  let f1 : Nat → Nat → Int32 := upd2 f 6 (upd (f 6) (v 10).toNatClampNeg p1)
  let t2 : Int32 := (v 10) + 1
  let t4 : Int32 := (v 14) + 1
  if (v 1) = 0 then
    match gsY_X11_token_1 NF (upd (upd v 10 t2) 14 t4) f1 w g with
    | (v8, f9, w10, g11) =>
      (v8, f9, w10, g11)
  else
    ((upd (upd v 10 t2) 14 t4), f1, w, g)
theorem gsY_X11_openUp_1_q0 {NF : Nat} {p1 : Int32} {v : Nat → Int32} {f : Nat → Nat → Int32} {w : Int64} {g : Nat → Int64} {f1 : Nat → Nat → Int32} {t2 : Int32} {t4 : Int32} (h0 : f1 = upd2 f 6 (upd (f 6) (v 10).toNatClampNeg p1)) (h1 : t2 = (v 10) + 1) (h2 : t4 = (v 14) + 1) (h3 : ¬ ((v 1) = 0)) : gsY_X11_openUp_1 NF p1 v f w g = ((upd (upd v 10 t2) 14 t4), f1, w, g) := by
  subst h0 h1 h2
  simp only [gsY_X11_openUp_1, if_neg h3]
theorem gsY_X11_openUp_1_q1 {NF : Nat} {p1 : Int32} {v : Nat → Int32} {f : Nat → Nat → Int32} {w : Int64} {g : Nat → Int64} {f1 : Nat → Nat → Int32} {t2 : Int32} {t4 : Int32} {v8 : Nat → Int32} {f9 : Nat → Nat → Int32} {w10 : Int64} {g11 : Nat → Int64} (h0 : f1 = upd2 f 6 (upd (f 6) (v 10).toNatClampNeg p1)) (h1 : t2 = (v 10) + 1) (h2 : t4 = (v 14) + 1) (h3 : ((v 1) = 0)) (h4 : gsY_X11_token_1 NF (upd (upd v 10 t2) 14 t4) f1 w g = (v8, f9, w10, g11)) : gsY_X11_openUp_1 NF p1 v f w g = (v8, f9, w10, g11) := by
  subst h0 h1 h2
  simp only [gsY_X11_openUp_1, if_pos h3, h4]
def gsY_X11_tight_1 (NF : Nat) (p0 : Int32) (v : Nat → Int32) (f : Nat → Nat → Int32) (w : Int64) (g : Nat → Int64) : Int32 :=
  if p0 = 21 then
    3
  else
    if p0 = 38 then
      2
    else
      if p0 = 43 then
        5
      else
        if p0 = 45 then
          5
        else
          if p0 = 60 then
            4
          else
            if p0 = 61 then
              4
            else
              if p0 = 62 then
                4
              else
                if p0 = 124 then
                  1
                else
                  6
theorem gsY_X11_tight_1_q0 {NF : Nat} {p0 : Int32} {v : Nat → Int32} {f : Nat → Nat → Int32} {w : Int64} {g : Nat → Int64} (h0 : (p0 = 21)) : gsY_X11_tight_1 NF p0 v f w g = 3 := by
  simp only [gsY_X11_tight_1, if_pos h0]
theorem gsY_X11_tight_1_q1 {NF : Nat} {p0 : Int32} {v : Nat → Int32} {f : Nat → Nat → Int32} {w : Int64} {g : Nat → Int64} (h0 : ¬ (p0 = 21)) (h1 : (p0 = 38)) : gsY_X11_tight_1 NF p0 v f w g = 2 := by
  simp only [gsY_X11_tight_1, if_neg h0, if_pos h1]
theorem gsY_X11_tight_1_q2 {NF : Nat} {p0 : Int32} {v : Nat → Int32} {f : Nat → Nat → Int32} {w : Int64} {g : Nat → Int64} (h0 : ¬ (p0 = 21)) (h1 : ¬ (p0 = 38)) (h2 : (p0 = 43)) : gsY_X11_tight_1 NF p0 v f w g = 5 := by
  simp only [gsY_X11_tight_1, if_neg h0, if_neg h1, if_pos h2]
theorem gsY_X11_tight_1_q3 {NF : Nat} {p0 : Int32} {v : Nat → Int32} {f : Nat → Nat → Int32} {w : Int64} {g : Nat → Int64} (h0 : ¬ (p0 = 21)) (h1 : ¬ (p0 = 38)) (h2 : ¬ (p0 = 43)) (h3 : (p0 = 45)) : gsY_X11_tight_1 NF p0 v f w g = 5 := by
  simp only [gsY_X11_tight_1, if_neg h0, if_neg h1, if_neg h2, if_pos h3]
theorem gsY_X11_tight_1_q4 {NF : Nat} {p0 : Int32} {v : Nat → Int32} {f : Nat → Nat → Int32} {w : Int64} {g : Nat → Int64} (h0 : ¬ (p0 = 21)) (h1 : ¬ (p0 = 38)) (h2 : ¬ (p0 = 43)) (h3 : ¬ (p0 = 45)) (h4 : (p0 = 60)) : gsY_X11_tight_1 NF p0 v f w g = 4 := by
  simp only [gsY_X11_tight_1, if_neg h0, if_neg h1, if_neg h2, if_neg h3, if_pos h4]
theorem gsY_X11_tight_1_q5 {NF : Nat} {p0 : Int32} {v : Nat → Int32} {f : Nat → Nat → Int32} {w : Int64} {g : Nat → Int64} (h0 : ¬ (p0 = 21)) (h1 : ¬ (p0 = 38)) (h2 : ¬ (p0 = 43)) (h3 : ¬ (p0 = 45)) (h4 : ¬ (p0 = 60)) (h5 : (p0 = 61)) : gsY_X11_tight_1 NF p0 v f w g = 4 := by
  simp only [gsY_X11_tight_1, if_neg h0, if_neg h1, if_neg h2, if_neg h3, if_neg h4, if_pos h5]
theorem gsY_X11_tight_1_q6 {NF : Nat} {p0 : Int32} {v : Nat → Int32} {f : Nat → Nat → Int32} {w : Int64} {g : Nat → Int64} (h0 : ¬ (p0 = 21)) (h1 : ¬ (p0 = 38)) (h2 : ¬ (p0 = 43)) (h3 : ¬ (p0 = 45)) (h4 : ¬ (p0 = 60)) (h5 : ¬ (p0 = 61)) (h6 : (p0 = 62)) : gsY_X11_tight_1 NF p0 v f w g = 4 := by
  simp only [gsY_X11_tight_1, if_neg h0, if_neg h1, if_neg h2, if_neg h3, if_neg h4, if_neg h5, if_pos h6]
theorem gsY_X11_tight_1_q7 {NF : Nat} {p0 : Int32} {v : Nat → Int32} {f : Nat → Nat → Int32} {w : Int64} {g : Nat → Int64} (h0 : ¬ (p0 = 21)) (h1 : ¬ (p0 = 38)) (h2 : ¬ (p0 = 43)) (h3 : ¬ (p0 = 45)) (h4 : ¬ (p0 = 60)) (h5 : ¬ (p0 = 61)) (h6 : ¬ (p0 = 62)) (h7 : (p0 = 124)) : gsY_X11_tight_1 NF p0 v f w g = 1 := by
  simp only [gsY_X11_tight_1, if_neg h0, if_neg h1, if_neg h2, if_neg h3, if_neg h4, if_neg h5, if_neg h6, if_pos h7]
theorem gsY_X11_tight_1_q8 {NF : Nat} {p0 : Int32} {v : Nat → Int32} {f : Nat → Nat → Int32} {w : Int64} {g : Nat → Int64} (h0 : ¬ (p0 = 21)) (h1 : ¬ (p0 = 38)) (h2 : ¬ (p0 = 43)) (h3 : ¬ (p0 = 45)) (h4 : ¬ (p0 = 60)) (h5 : ¬ (p0 = 61)) (h6 : ¬ (p0 = 62)) (h7 : ¬ (p0 = 124)) : gsY_X11_tight_1 NF p0 v f w g = 6 := by
  simp only [gsY_X11_tight_1, if_neg h0, if_neg h1, if_neg h2, if_neg h3, if_neg h4, if_neg h5, if_neg h6, if_neg h7]
def gsY_X11_mayNot_1 (NF : Nat) (v : Nat → Int32) (f : Nat → Nat → Int32) (w : Int64) (g : Nat → Int64) : Int32 :=
  if (v 10) = 0 then
    1
  else
    let t2 : Int32 := (v 10) - 1
    let t4 : Int32 := f 6 (t2).toNatClampNeg
    if t4 = 20 then
      1
    else
      let r6 : Int32 := gsY_X11_tight_1 NF t4 v f w g
      if 4 ≤ r6 then
        0
      else
        1
theorem gsY_X11_mayNot_1_q0 {NF : Nat} {v : Nat → Int32} {f : Nat → Nat → Int32} {w : Int64} {g : Nat → Int64} (h0 : ((v 10) = 0)) : gsY_X11_mayNot_1 NF v f w g = 1 := by
  simp only [gsY_X11_mayNot_1, if_pos h0]
theorem gsY_X11_mayNot_1_q1 {NF : Nat} {v : Nat → Int32} {f : Nat → Nat → Int32} {w : Int64} {g : Nat → Int64} {t2 : Int32} {t4 : Int32} (h0 : ¬ ((v 10) = 0)) (h1 : t2 = (v 10) - 1) (h2 : t4 = f 6 (t2).toNatClampNeg) (h3 : (t4 = 20)) : gsY_X11_mayNot_1 NF v f w g = 1 := by
  subst h1 h2
  simp only [gsY_X11_mayNot_1, if_neg h0, if_pos h3]
theorem gsY_X11_mayNot_1_q2 {NF : Nat} {v : Nat → Int32} {f : Nat → Nat → Int32} {w : Int64} {g : Nat → Int64} {t2 : Int32} {t4 : Int32} {r6 : Int32} (h0 : ¬ ((v 10) = 0)) (h1 : t2 = (v 10) - 1) (h2 : t4 = f 6 (t2).toNatClampNeg) (h3 : ¬ (t4 = 20)) (h4 : r6 = gsY_X11_tight_1 NF t4 v f w g) (h5 : (4 ≤ r6)) : gsY_X11_mayNot_1 NF v f w g = 0 := by
  subst h1 h2 h4
  simp only [gsY_X11_mayNot_1, if_neg h0, if_neg h3, if_pos h5]
theorem gsY_X11_mayNot_1_q3 {NF : Nat} {v : Nat → Int32} {f : Nat → Nat → Int32} {w : Int64} {g : Nat → Int64} {t2 : Int32} {t4 : Int32} {r6 : Int32} (h0 : ¬ ((v 10) = 0)) (h1 : t2 = (v 10) - 1) (h2 : t4 = f 6 (t2).toNatClampNeg) (h3 : ¬ (t4 = 20)) (h4 : r6 = gsY_X11_tight_1 NF t4 v f w g) (h5 : ¬ (4 ≤ r6)) : gsY_X11_mayNot_1 NF v f w g = 1 := by
  subst h1 h2 h4
  simp only [gsY_X11_mayNot_1, if_neg h0, if_neg h3, if_neg h5]
def gsY_X11_unit_1_J6 (NF : Nat) (f1 : Nat → Nat → Int32) (g1 : Nat → Int64) (v1 : Nat → Int32) (w1 : Int64) (r4 : Int32) : (Nat → Int32) × (Nat → Nat → Int32) × (Int64) × (Nat → Int64) :=
  match gsY_X11_wrong_1 NF 2 v1 f1 w1 g1 with
  | (v8, f9, w10, g11) =>
    if (v8 1) ≤ 0 then
      match gsY_X11_countUnit_1 NF v8 f9 w10 g11 with
      | (v20, f21, w22, g23) =>
        if 0 ≤ r4 then
          if 0 ≤ r4 then
            match gsY_X11_add_1 NF 1 r4 v20 f21 w22 g23 with
            | (v31, f32, w33, g34) =>
              match gsY_X11_token_1 NF v31 f32 w33 g34 with
              | (v40, f41, w42, g43) =>
                (v40, f41, w42, g43)
          else
            match gsY_X11_add_1 NF 1 (v20 7) v20 f21 w22 g23 with
            | (v50, f51, w52, g53) =>
              match gsY_X11_token_1 NF v50 f51 w52 g53 with
              | (v59, f60, w61, g62) =>
                (v59, f60, w61, g62)
        else
          if 0 ≤ r4 then
            match gsY_X11_add_1 NF 0 r4 v20 f21 w22 g23 with
            | (v70, f71, w72, g73) =>
              match gsY_X11_token_1 NF v70 f71 w72 g73 with
              | (v79, f80, w81, g82) =>
                (v79, f80, w81, g82)
          else
            match gsY_X11_add_1 NF 0 (v20 7) v20 f21 w22 g23 with
            | (v89, f90, w91, g92) =>
              match gsY_X11_token_1 NF v89 f90 w91 g92 with
              | (v98, f99, w100, g101) =>
                (v98, f99, w100, g101)
    else
      (v8, f9, w10, g11)
def gsY_X11_unit_1_J107 (NF : Nat) (f1 : Nat → Nat → Int32) (g1 : Nat → Int64) (v1 : Nat → Int32) (w1 : Int64) (r4 : Int32) : (Nat → Int32) × (Nat → Nat → Int32) × (Int64) × (Nat → Int64) :=
  if gsY_X11_isFull_1 NF v1 f1 w1 g1 = 1 then
    gsY_X11_unit_1_J6 NF f1 g1 v1 w1 r4
  else
    if (v1 1) ≤ 0 then
      match gsY_X11_countUnit_1 NF v1 f1 w1 g1 with
      | (v113, f114, w115, g116) =>
        if 0 ≤ r4 then
          if 0 ≤ r4 then
            match gsY_X11_add_1 NF 1 r4 v113 f114 w115 g116 with
            | (v124, f125, w126, g127) =>
              match gsY_X11_token_1 NF v124 f125 w126 g127 with
              | (v133, f134, w135, g136) =>
                (v133, f134, w135, g136)
          else
            match gsY_X11_add_1 NF 1 (v113 7) v113 f114 w115 g116 with
            | (v143, f144, w145, g146) =>
              match gsY_X11_token_1 NF v143 f144 w145 g146 with
              | (v152, f153, w154, g155) =>
                (v152, f153, w154, g155)
        else
          if 0 ≤ r4 then
            match gsY_X11_add_1 NF 0 r4 v113 f114 w115 g116 with
            | (v163, f164, w165, g166) =>
              match gsY_X11_token_1 NF v163 f164 w165 g166 with
              | (v172, f173, w174, g175) =>
                (v172, f173, w174, g175)
          else
            match gsY_X11_add_1 NF 0 (v113 7) v113 f114 w115 g116 with
            | (v182, f183, w184, g185) =>
              match gsY_X11_token_1 NF v182 f183 w184 g185 with
              | (v191, f192, w193, g194) =>
                (v191, f192, w193, g194)
    else
      (v1, f1, w1, g1)
def gsY_X11_unit_1_J2 (NF : Nat) (f1 : Nat → Nat → Int32) (g1 : Nat → Int64) (v1 : Nat → Int32) (w1 : Int64) : (Nat → Int32) × (Nat → Nat → Int32) × (Int64) × (Nat → Int64) :=
  if (v1 1) ≤ 0 then
    let r4 : Int32 := gsY_X11_asked_1 NF v1 f1 w1 g1
    if (v1 5) = 2 then
      gsY_X11_unit_1_J107 NF f1 g1 v1 w1 r4
    else
      if r4 < 0 then
        gsY_X11_unit_1_J6 NF f1 g1 v1 w1 r4
      else
        gsY_X11_unit_1_J107 NF f1 g1 v1 w1 r4
  else
    (v1, f1, w1, g1)
def gsY_X11_unit_1_J204 (NF : Nat) (f1 : Nat → Nat → Int32) (g1 : Nat → Int64) (l1_1 : Int32) (v1 : Nat → Int32) (w1 : Int64) (k1 : Int32 → (Nat → Int32) → (Nat → Nat → Int32) → Int64 → (Nat → Int64) → ((Nat → Int32) × (Nat → Nat → Int32) × (Int64) × (Nat → Int64))) : (Nat → Int32) × (Nat → Nat → Int32) × (Int64) × (Nat → Int64) :=
  if (v1 5) = 40 then
    if gsY_X11_isFull_1 NF v1 f1 w1 g1 = 1 then
      match gsY_X11_wrong_1 NF 2 v1 f1 w1 g1 with
      | (v210, f211, w212, g213) =>
        match gsY_X11_countUnit_1 NF v210 f211 w212 g213 with
        | (v221, f222, w223, g224) =>
          match gsY_X11_openUp_1 NF 20 v221 f222 w223 g224 with
          | (v230, f231, w232, g233) =>
            k1 l1_1 v230 f231 w232 g233
    else
      if (v1 14) ≤ 6 then
        match gsY_X11_countUnit_1 NF v1 f1 w1 g1 with
        | (v243, f244, w245, g246) =>
          match gsY_X11_openUp_1 NF 20 v243 f244 w245 g246 with
          | (v252, f253, w254, g255) =>
            k1 l1_1 v252 f253 w254 g255
      else
        match gsY_X11_wrong_1 NF 2 v1 f1 w1 g1 with
        | (v264, f265, w266, g267) =>
          match gsY_X11_countUnit_1 NF v264 f265 w266 g267 with
          | (v275, f276, w277, g278) =>
            match gsY_X11_openUp_1 NF 20 v275 f276 w277 g278 with
            | (v284, f285, w286, g287) =>
              k1 l1_1 v284 f285 w286 g287
  else
    k1 0 v1 f1 w1 g1
def gsY_X11_unit_1_L1 (NF : Nat) : Nat → (Int32) → (Nat → Int32) → (Nat → Nat → Int32) → (Int64) → (Nat → Int64) → (Nat → Int32) × (Nat → Nat → Int32) × (Int64) × (Nat → Int64)
  | 0, _, _, _, _, _ => ((fun _ => 0), (fun _ _ => 0), 0, (fun _ => 0))
  | n1 + 1, l1_1, v1, f1, w1, g1 =>
    if l1_1 = 0 then
      gsY_X11_unit_1_J2 NF f1 g1 v1 w1
    else
      if (v1 1) = 0 then
        if gsY_X11_isWord_1 NF (7237492 : Int64) v1 f1 w1 g1 = 1 then
          if gsY_X11_mayNot_1 NF v1 f1 w1 g1 = 1 then
            if (v1 14) ≤ 6 then
              match gsY_X11_openUp_1 NF 21 v1 f1 w1 g1 with
              | (v303, f304, w305, g306) =>
                gsY_X11_unit_1_L1 NF n1 l1_1 v303 f304 w305 g306
            else
              match gsY_X11_wrong_1 NF 2 v1 f1 w1 g1 with
              | (v315, f316, w317, g318) =>
                match gsY_X11_openUp_1 NF 21 v315 f316 w317 g318 with
                | (v326, f327, w328, g329) =>
                  gsY_X11_unit_1_L1 NF n1 l1_1 v326 f327 w328 g329
          else
            gsY_X11_unit_1_J204 NF f1 g1 l1_1 v1 w1 (fun z0 z1 z2 z3 z4 => gsY_X11_unit_1_L1 NF n1 z0 z1 z2 z3 z4)
        else
          gsY_X11_unit_1_J204 NF f1 g1 l1_1 v1 w1 (fun z0 z1 z2 z3 z4 => gsY_X11_unit_1_L1 NF n1 z0 z1 z2 z3 z4)
      else
        gsY_X11_unit_1_J2 NF f1 g1 v1 w1
def gsY_X11_unit_1 (NF : Nat) (v : Nat → Int32) (f : Nat → Nat → Int32) (w : Int64) (g : Nat → Int64) : (Nat → Int32) × (Nat → Nat → Int32) × (Int64) × (Nat → Int64) :=
  gsY_X11_unit_1_L1 NF (4294967296 + NF) 1 v f w g
theorem gsY_X11_unit_1_q25 {NF : Nat} {v : Nat → Int32} {f : Nat → Nat → Int32} {w : Int64} {g : Nat → Int64}  : gsY_X11_unit_1 NF v f w g = gsY_X11_unit_1_L1 NF (4294967296 + NF) 1 v f w g := by
  simp only [gsY_X11_unit_1]
theorem gsY_X11_unit_1_q15 {NF : Nat} {n1 : Nat} {l1_1 : Int32} {v1 : Nat → Int32} {f1 : Nat → Nat → Int32} {w1 : Int64} {g1 : Nat → Int64} (h0 : (l1_1 = 0)) : gsY_X11_unit_1_L1 NF (n1 + 1) l1_1 v1 f1 w1 g1 = gsY_X11_unit_1_J2 NF f1 g1 v1 w1 := by
  simp only [gsY_X11_unit_1_L1, if_pos h0]
theorem gsY_X11_unit_1_q16 {NF : Nat} {n1 : Nat} {l1_1 : Int32} {v1 : Nat → Int32} {f1 : Nat → Nat → Int32} {w1 : Int64} {g1 : Nat → Int64} (h0 : ¬ (l1_1 = 0)) (h1 : ¬ ((v1 1) = 0)) : gsY_X11_unit_1_L1 NF (n1 + 1) l1_1 v1 f1 w1 g1 = gsY_X11_unit_1_J2 NF f1 g1 v1 w1 := by
  simp only [gsY_X11_unit_1_L1, if_neg h0, if_neg h1]
theorem gsY_X11_unit_1_q21 {NF : Nat} {n1 : Nat} {l1_1 : Int32} {v1 : Nat → Int32} {f1 : Nat → Nat → Int32} {w1 : Int64} {g1 : Nat → Int64} {v303 : Nat → Int32} {f304 : Nat → Nat → Int32} {w305 : Int64} {g306 : Nat → Int64} (h0 : ¬ (l1_1 = 0)) (h1 : ((v1 1) = 0)) (h2 : gsY_X11_isWord_1 NF (7237492 : Int64) v1 f1 w1 g1 = 1) (h3 : gsY_X11_mayNot_1 NF v1 f1 w1 g1 = 1) (h4 : ((v1 14) ≤ 6)) (h5 : gsY_X11_openUp_1 NF 21 v1 f1 w1 g1 = (v303, f304, w305, g306)) : gsY_X11_unit_1_L1 NF (n1 + 1) l1_1 v1 f1 w1 g1 = gsY_X11_unit_1_L1 NF n1 l1_1 v303 f304 w305 g306 := by
  simp only [gsY_X11_unit_1_L1, if_neg h0, if_pos h1, h2, h3, if_pos h4, h5, ite11, ite01, if_true, if_false]
theorem gsY_X11_unit_1_q22 {NF : Nat} {n1 : Nat} {l1_1 : Int32} {v1 : Nat → Int32} {f1 : Nat → Nat → Int32} {w1 : Int64} {g1 : Nat → Int64} {v315 : Nat → Int32} {f316 : Nat → Nat → Int32} {w317 : Int64} {g318 : Nat → Int64} {v326 : Nat → Int32} {f327 : Nat → Nat → Int32} {w328 : Int64} {g329 : Nat → Int64} (h0 : ¬ (l1_1 = 0)) (h1 : ((v1 1) = 0)) (h2 : gsY_X11_isWord_1 NF (7237492 : Int64) v1 f1 w1 g1 = 1) (h3 : gsY_X11_mayNot_1 NF v1 f1 w1 g1 = 1) (h4 : ¬ ((v1 14) ≤ 6)) (h5 : gsY_X11_wrong_1 NF 2 v1 f1 w1 g1 = (v315, f316, w317, g318)) (h6 : gsY_X11_openUp_1 NF 21 v315 f316 w317 g318 = (v326, f327, w328, g329)) : gsY_X11_unit_1_L1 NF (n1 + 1) l1_1 v1 f1 w1 g1 = gsY_X11_unit_1_L1 NF n1 l1_1 v326 f327 w328 g329 := by
  simp only [gsY_X11_unit_1_L1, if_neg h0, if_pos h1, h2, h3, if_neg h4, h5, h6, ite11, ite01, if_true, if_false]
theorem gsY_X11_unit_1_q23 {NF : Nat} {n1 : Nat} {l1_1 : Int32} {v1 : Nat → Int32} {f1 : Nat → Nat → Int32} {w1 : Int64} {g1 : Nat → Int64} (h0 : ¬ (l1_1 = 0)) (h1 : ((v1 1) = 0)) (h2 : gsY_X11_isWord_1 NF (7237492 : Int64) v1 f1 w1 g1 = 1) (h3 : gsY_X11_mayNot_1 NF v1 f1 w1 g1 = 0) : gsY_X11_unit_1_L1 NF (n1 + 1) l1_1 v1 f1 w1 g1 = gsY_X11_unit_1_J204 NF f1 g1 l1_1 v1 w1 (fun z0 z1 z2 z3 z4 => gsY_X11_unit_1_L1 NF n1 z0 z1 z2 z3 z4) := by
  simp only [gsY_X11_unit_1_L1, if_neg h0, if_pos h1, h2, h3, ite11, ite01, if_true, if_false]
theorem gsY_X11_unit_1_q24 {NF : Nat} {n1 : Nat} {l1_1 : Int32} {v1 : Nat → Int32} {f1 : Nat → Nat → Int32} {w1 : Int64} {g1 : Nat → Int64} (h0 : ¬ (l1_1 = 0)) (h1 : ((v1 1) = 0)) (h2 : gsY_X11_isWord_1 NF (7237492 : Int64) v1 f1 w1 g1 = 0) : gsY_X11_unit_1_L1 NF (n1 + 1) l1_1 v1 f1 w1 g1 = gsY_X11_unit_1_J204 NF f1 g1 l1_1 v1 w1 (fun z0 z1 z2 z3 z4 => gsY_X11_unit_1_L1 NF n1 z0 z1 z2 z3 z4) := by
  simp only [gsY_X11_unit_1_L1, if_neg h0, if_pos h1, h2, ite11, ite01, if_true, if_false]
theorem gsY_X11_unit_1_q11 {NF : Nat} {f1 : Nat → Nat → Int32} {g1 : Nat → Int64} {v1 : Nat → Int32} {w1 : Int64} {r4 : Int32} (h0 : ((v1 1) ≤ 0)) (h1 : r4 = gsY_X11_asked_1 NF v1 f1 w1 g1) (h2 : ((v1 5) = 2)) : gsY_X11_unit_1_J2 NF f1 g1 v1 w1 = gsY_X11_unit_1_J107 NF f1 g1 v1 w1 r4 := by
  subst h1
  simp only [gsY_X11_unit_1_J2, if_pos h0, if_pos h2]
theorem gsY_X11_unit_1_q12 {NF : Nat} {f1 : Nat → Nat → Int32} {g1 : Nat → Int64} {v1 : Nat → Int32} {w1 : Int64} {r4 : Int32} (h0 : ((v1 1) ≤ 0)) (h1 : r4 = gsY_X11_asked_1 NF v1 f1 w1 g1) (h2 : ¬ ((v1 5) = 2)) (h3 : (r4 < 0)) : gsY_X11_unit_1_J2 NF f1 g1 v1 w1 = gsY_X11_unit_1_J6 NF f1 g1 v1 w1 r4 := by
  subst h1
  simp only [gsY_X11_unit_1_J2, if_pos h0, if_neg h2, if_pos h3]
theorem gsY_X11_unit_1_q13 {NF : Nat} {f1 : Nat → Nat → Int32} {g1 : Nat → Int64} {v1 : Nat → Int32} {w1 : Int64} {r4 : Int32} (h0 : ((v1 1) ≤ 0)) (h1 : r4 = gsY_X11_asked_1 NF v1 f1 w1 g1) (h2 : ¬ ((v1 5) = 2)) (h3 : ¬ (r4 < 0)) : gsY_X11_unit_1_J2 NF f1 g1 v1 w1 = gsY_X11_unit_1_J107 NF f1 g1 v1 w1 r4 := by
  subst h1
  simp only [gsY_X11_unit_1_J2, if_pos h0, if_neg h2, if_neg h3]
theorem gsY_X11_unit_1_q14 {NF : Nat} {f1 : Nat → Nat → Int32} {g1 : Nat → Int64} {v1 : Nat → Int32} {w1 : Int64} (h0 : ¬ ((v1 1) ≤ 0)) : gsY_X11_unit_1_J2 NF f1 g1 v1 w1 = (v1, f1, w1, g1) := by
  simp only [gsY_X11_unit_1_J2, if_neg h0]
theorem gsY_X11_unit_1_q0 {NF : Nat} {f1 : Nat → Nat → Int32} {g1 : Nat → Int64} {v1 : Nat → Int32} {w1 : Int64} {r4 : Int32} {v8 : Nat → Int32} {f9 : Nat → Nat → Int32} {w10 : Int64} {g11 : Nat → Int64} {v20 : Nat → Int32} {f21 : Nat → Nat → Int32} {w22 : Int64} {g23 : Nat → Int64} {v31 : Nat → Int32} {f32 : Nat → Nat → Int32} {w33 : Int64} {g34 : Nat → Int64} {v40 : Nat → Int32} {f41 : Nat → Nat → Int32} {w42 : Int64} {g43 : Nat → Int64} (h0 : gsY_X11_wrong_1 NF 2 v1 f1 w1 g1 = (v8, f9, w10, g11)) (h1 : ((v8 1) ≤ 0)) (h2 : gsY_X11_countUnit_1 NF v8 f9 w10 g11 = (v20, f21, w22, g23)) (h3 : (0 ≤ r4)) (h4 : (0 ≤ r4)) (h5 : gsY_X11_add_1 NF 1 r4 v20 f21 w22 g23 = (v31, f32, w33, g34)) (h6 : gsY_X11_token_1 NF v31 f32 w33 g34 = (v40, f41, w42, g43)) : gsY_X11_unit_1_J6 NF f1 g1 v1 w1 r4 = (v40, f41, w42, g43) := by
  simp only [gsY_X11_unit_1_J6, h0, if_pos h1, h2, if_pos h3, if_pos h4, h5, h6]
theorem gsY_X11_unit_1_q1 {NF : Nat} {f1 : Nat → Nat → Int32} {g1 : Nat → Int64} {v1 : Nat → Int32} {w1 : Int64} {r4 : Int32} {v8 : Nat → Int32} {f9 : Nat → Nat → Int32} {w10 : Int64} {g11 : Nat → Int64} {v20 : Nat → Int32} {f21 : Nat → Nat → Int32} {w22 : Int64} {g23 : Nat → Int64} {v50 : Nat → Int32} {f51 : Nat → Nat → Int32} {w52 : Int64} {g53 : Nat → Int64} {v59 : Nat → Int32} {f60 : Nat → Nat → Int32} {w61 : Int64} {g62 : Nat → Int64} (h0 : gsY_X11_wrong_1 NF 2 v1 f1 w1 g1 = (v8, f9, w10, g11)) (h1 : ((v8 1) ≤ 0)) (h2 : gsY_X11_countUnit_1 NF v8 f9 w10 g11 = (v20, f21, w22, g23)) (h3 : (0 ≤ r4)) (h4 : ¬ (0 ≤ r4)) (h5 : gsY_X11_add_1 NF 1 (v20 7) v20 f21 w22 g23 = (v50, f51, w52, g53)) (h6 : gsY_X11_token_1 NF v50 f51 w52 g53 = (v59, f60, w61, g62)) : gsY_X11_unit_1_J6 NF f1 g1 v1 w1 r4 = (v59, f60, w61, g62) := by
  exact absurd h3 h4
theorem gsY_X11_unit_1_q2 {NF : Nat} {f1 : Nat → Nat → Int32} {g1 : Nat → Int64} {v1 : Nat → Int32} {w1 : Int64} {r4 : Int32} {v8 : Nat → Int32} {f9 : Nat → Nat → Int32} {w10 : Int64} {g11 : Nat → Int64} {v20 : Nat → Int32} {f21 : Nat → Nat → Int32} {w22 : Int64} {g23 : Nat → Int64} {v70 : Nat → Int32} {f71 : Nat → Nat → Int32} {w72 : Int64} {g73 : Nat → Int64} {v79 : Nat → Int32} {f80 : Nat → Nat → Int32} {w81 : Int64} {g82 : Nat → Int64} (h0 : gsY_X11_wrong_1 NF 2 v1 f1 w1 g1 = (v8, f9, w10, g11)) (h1 : ((v8 1) ≤ 0)) (h2 : gsY_X11_countUnit_1 NF v8 f9 w10 g11 = (v20, f21, w22, g23)) (h3 : ¬ (0 ≤ r4)) (h4 : (0 ≤ r4)) (h5 : gsY_X11_add_1 NF 0 r4 v20 f21 w22 g23 = (v70, f71, w72, g73)) (h6 : gsY_X11_token_1 NF v70 f71 w72 g73 = (v79, f80, w81, g82)) : gsY_X11_unit_1_J6 NF f1 g1 v1 w1 r4 = (v79, f80, w81, g82) := by
  exact absurd h4 h3
theorem gsY_X11_unit_1_q3 {NF : Nat} {f1 : Nat → Nat → Int32} {g1 : Nat → Int64} {v1 : Nat → Int32} {w1 : Int64} {r4 : Int32} {v8 : Nat → Int32} {f9 : Nat → Nat → Int32} {w10 : Int64} {g11 : Nat → Int64} {v20 : Nat → Int32} {f21 : Nat → Nat → Int32} {w22 : Int64} {g23 : Nat → Int64} {v89 : Nat → Int32} {f90 : Nat → Nat → Int32} {w91 : Int64} {g92 : Nat → Int64} {v98 : Nat → Int32} {f99 : Nat → Nat → Int32} {w100 : Int64} {g101 : Nat → Int64} (h0 : gsY_X11_wrong_1 NF 2 v1 f1 w1 g1 = (v8, f9, w10, g11)) (h1 : ((v8 1) ≤ 0)) (h2 : gsY_X11_countUnit_1 NF v8 f9 w10 g11 = (v20, f21, w22, g23)) (h3 : ¬ (0 ≤ r4)) (h4 : ¬ (0 ≤ r4)) (h5 : gsY_X11_add_1 NF 0 (v20 7) v20 f21 w22 g23 = (v89, f90, w91, g92)) (h6 : gsY_X11_token_1 NF v89 f90 w91 g92 = (v98, f99, w100, g101)) : gsY_X11_unit_1_J6 NF f1 g1 v1 w1 r4 = (v98, f99, w100, g101) := by
  simp only [gsY_X11_unit_1_J6, h0, if_pos h1, h2, if_neg h3, if_neg h4, h5, h6]
theorem gsY_X11_unit_1_q4 {NF : Nat} {f1 : Nat → Nat → Int32} {g1 : Nat → Int64} {v1 : Nat → Int32} {w1 : Int64} {r4 : Int32} {v8 : Nat → Int32} {f9 : Nat → Nat → Int32} {w10 : Int64} {g11 : Nat → Int64} (h0 : gsY_X11_wrong_1 NF 2 v1 f1 w1 g1 = (v8, f9, w10, g11)) (h1 : ¬ ((v8 1) ≤ 0)) : gsY_X11_unit_1_J6 NF f1 g1 v1 w1 r4 = (v8, f9, w10, g11) := by
  simp only [gsY_X11_unit_1_J6, h0, if_neg h1]
theorem gsY_X11_unit_1_q5 {NF : Nat} {f1 : Nat → Nat → Int32} {g1 : Nat → Int64} {v1 : Nat → Int32} {w1 : Int64} {r4 : Int32} (h0 : gsY_X11_isFull_1 NF v1 f1 w1 g1 = 1) : gsY_X11_unit_1_J107 NF f1 g1 v1 w1 r4 = gsY_X11_unit_1_J6 NF f1 g1 v1 w1 r4 := by
  simp only [gsY_X11_unit_1_J107, h0, ite11, ite01, if_true, if_false]
theorem gsY_X11_unit_1_q6 {NF : Nat} {f1 : Nat → Nat → Int32} {g1 : Nat → Int64} {v1 : Nat → Int32} {w1 : Int64} {r4 : Int32} {v113 : Nat → Int32} {f114 : Nat → Nat → Int32} {w115 : Int64} {g116 : Nat → Int64} {v124 : Nat → Int32} {f125 : Nat → Nat → Int32} {w126 : Int64} {g127 : Nat → Int64} {v133 : Nat → Int32} {f134 : Nat → Nat → Int32} {w135 : Int64} {g136 : Nat → Int64} (h0 : gsY_X11_isFull_1 NF v1 f1 w1 g1 = 0) (h1 : ((v1 1) ≤ 0)) (h2 : gsY_X11_countUnit_1 NF v1 f1 w1 g1 = (v113, f114, w115, g116)) (h3 : (0 ≤ r4)) (h4 : (0 ≤ r4)) (h5 : gsY_X11_add_1 NF 1 r4 v113 f114 w115 g116 = (v124, f125, w126, g127)) (h6 : gsY_X11_token_1 NF v124 f125 w126 g127 = (v133, f134, w135, g136)) : gsY_X11_unit_1_J107 NF f1 g1 v1 w1 r4 = (v133, f134, w135, g136) := by
  simp only [gsY_X11_unit_1_J107, h0, if_pos h1, h2, if_pos h3, if_pos h4, h5, h6, ite11, ite01, if_true, if_false]
theorem gsY_X11_unit_1_q7 {NF : Nat} {f1 : Nat → Nat → Int32} {g1 : Nat → Int64} {v1 : Nat → Int32} {w1 : Int64} {r4 : Int32} {v113 : Nat → Int32} {f114 : Nat → Nat → Int32} {w115 : Int64} {g116 : Nat → Int64} {v143 : Nat → Int32} {f144 : Nat → Nat → Int32} {w145 : Int64} {g146 : Nat → Int64} {v152 : Nat → Int32} {f153 : Nat → Nat → Int32} {w154 : Int64} {g155 : Nat → Int64} (h0 : gsY_X11_isFull_1 NF v1 f1 w1 g1 = 0) (h1 : ((v1 1) ≤ 0)) (h2 : gsY_X11_countUnit_1 NF v1 f1 w1 g1 = (v113, f114, w115, g116)) (h3 : (0 ≤ r4)) (h4 : ¬ (0 ≤ r4)) (h5 : gsY_X11_add_1 NF 1 (v113 7) v113 f114 w115 g116 = (v143, f144, w145, g146)) (h6 : gsY_X11_token_1 NF v143 f144 w145 g146 = (v152, f153, w154, g155)) : gsY_X11_unit_1_J107 NF f1 g1 v1 w1 r4 = (v152, f153, w154, g155) := by
  exact absurd h3 h4
theorem gsY_X11_unit_1_q8 {NF : Nat} {f1 : Nat → Nat → Int32} {g1 : Nat → Int64} {v1 : Nat → Int32} {w1 : Int64} {r4 : Int32} {v113 : Nat → Int32} {f114 : Nat → Nat → Int32} {w115 : Int64} {g116 : Nat → Int64} {v163 : Nat → Int32} {f164 : Nat → Nat → Int32} {w165 : Int64} {g166 : Nat → Int64} {v172 : Nat → Int32} {f173 : Nat → Nat → Int32} {w174 : Int64} {g175 : Nat → Int64} (h0 : gsY_X11_isFull_1 NF v1 f1 w1 g1 = 0) (h1 : ((v1 1) ≤ 0)) (h2 : gsY_X11_countUnit_1 NF v1 f1 w1 g1 = (v113, f114, w115, g116)) (h3 : ¬ (0 ≤ r4)) (h4 : (0 ≤ r4)) (h5 : gsY_X11_add_1 NF 0 r4 v113 f114 w115 g116 = (v163, f164, w165, g166)) (h6 : gsY_X11_token_1 NF v163 f164 w165 g166 = (v172, f173, w174, g175)) : gsY_X11_unit_1_J107 NF f1 g1 v1 w1 r4 = (v172, f173, w174, g175) := by
  exact absurd h4 h3
theorem gsY_X11_unit_1_q9 {NF : Nat} {f1 : Nat → Nat → Int32} {g1 : Nat → Int64} {v1 : Nat → Int32} {w1 : Int64} {r4 : Int32} {v113 : Nat → Int32} {f114 : Nat → Nat → Int32} {w115 : Int64} {g116 : Nat → Int64} {v182 : Nat → Int32} {f183 : Nat → Nat → Int32} {w184 : Int64} {g185 : Nat → Int64} {v191 : Nat → Int32} {f192 : Nat → Nat → Int32} {w193 : Int64} {g194 : Nat → Int64} (h0 : gsY_X11_isFull_1 NF v1 f1 w1 g1 = 0) (h1 : ((v1 1) ≤ 0)) (h2 : gsY_X11_countUnit_1 NF v1 f1 w1 g1 = (v113, f114, w115, g116)) (h3 : ¬ (0 ≤ r4)) (h4 : ¬ (0 ≤ r4)) (h5 : gsY_X11_add_1 NF 0 (v113 7) v113 f114 w115 g116 = (v182, f183, w184, g185)) (h6 : gsY_X11_token_1 NF v182 f183 w184 g185 = (v191, f192, w193, g194)) : gsY_X11_unit_1_J107 NF f1 g1 v1 w1 r4 = (v191, f192, w193, g194) := by
  simp only [gsY_X11_unit_1_J107, h0, if_pos h1, h2, if_neg h3, if_neg h4, h5, h6, ite11, ite01, if_true, if_false]
theorem gsY_X11_unit_1_q10 {NF : Nat} {f1 : Nat → Nat → Int32} {g1 : Nat → Int64} {v1 : Nat → Int32} {w1 : Int64} {r4 : Int32} (h0 : gsY_X11_isFull_1 NF v1 f1 w1 g1 = 0) (h1 : ¬ ((v1 1) ≤ 0)) : gsY_X11_unit_1_J107 NF f1 g1 v1 w1 r4 = (v1, f1, w1, g1) := by
  simp only [gsY_X11_unit_1_J107, h0, if_neg h1, ite11, ite01, if_true, if_false]
theorem gsY_X11_unit_1_q17 {NF : Nat} {f1 : Nat → Nat → Int32} {g1 : Nat → Int64} {l1_1 : Int32} {v1 : Nat → Int32} {w1 : Int64} {k1 : Int32 → (Nat → Int32) → (Nat → Nat → Int32) → Int64 → (Nat → Int64) → ((Nat → Int32) × (Nat → Nat → Int32) × (Int64) × (Nat → Int64))} (h0 : ¬ ((v1 5) = 40)) : gsY_X11_unit_1_J204 NF f1 g1 l1_1 v1 w1 k1 = k1 0 v1 f1 w1 g1 := by
  simp only [gsY_X11_unit_1_J204, if_neg h0]
theorem gsY_X11_unit_1_q18 {NF : Nat} {f1 : Nat → Nat → Int32} {g1 : Nat → Int64} {l1_1 : Int32} {v1 : Nat → Int32} {w1 : Int64} {v210 : Nat → Int32} {f211 : Nat → Nat → Int32} {w212 : Int64} {g213 : Nat → Int64} {v221 : Nat → Int32} {f222 : Nat → Nat → Int32} {w223 : Int64} {g224 : Nat → Int64} {v230 : Nat → Int32} {f231 : Nat → Nat → Int32} {w232 : Int64} {g233 : Nat → Int64} {k1 : Int32 → (Nat → Int32) → (Nat → Nat → Int32) → Int64 → (Nat → Int64) → ((Nat → Int32) × (Nat → Nat → Int32) × (Int64) × (Nat → Int64))} (h0 : ((v1 5) = 40)) (h1 : gsY_X11_isFull_1 NF v1 f1 w1 g1 = 1) (h2 : gsY_X11_wrong_1 NF 2 v1 f1 w1 g1 = (v210, f211, w212, g213)) (h3 : gsY_X11_countUnit_1 NF v210 f211 w212 g213 = (v221, f222, w223, g224)) (h4 : gsY_X11_openUp_1 NF 20 v221 f222 w223 g224 = (v230, f231, w232, g233)) : gsY_X11_unit_1_J204 NF f1 g1 l1_1 v1 w1 k1 = k1 l1_1 v230 f231 w232 g233 := by
  simp only [gsY_X11_unit_1_J204, if_pos h0, h1, h2, h3, h4, ite11, ite01, if_true, if_false]
theorem gsY_X11_unit_1_q19 {NF : Nat} {f1 : Nat → Nat → Int32} {g1 : Nat → Int64} {l1_1 : Int32} {v1 : Nat → Int32} {w1 : Int64} {v243 : Nat → Int32} {f244 : Nat → Nat → Int32} {w245 : Int64} {g246 : Nat → Int64} {v252 : Nat → Int32} {f253 : Nat → Nat → Int32} {w254 : Int64} {g255 : Nat → Int64} {k1 : Int32 → (Nat → Int32) → (Nat → Nat → Int32) → Int64 → (Nat → Int64) → ((Nat → Int32) × (Nat → Nat → Int32) × (Int64) × (Nat → Int64))} (h0 : ((v1 5) = 40)) (h1 : gsY_X11_isFull_1 NF v1 f1 w1 g1 = 0) (h2 : ((v1 14) ≤ 6)) (h3 : gsY_X11_countUnit_1 NF v1 f1 w1 g1 = (v243, f244, w245, g246)) (h4 : gsY_X11_openUp_1 NF 20 v243 f244 w245 g246 = (v252, f253, w254, g255)) : gsY_X11_unit_1_J204 NF f1 g1 l1_1 v1 w1 k1 = k1 l1_1 v252 f253 w254 g255 := by
  simp only [gsY_X11_unit_1_J204, if_pos h0, h1, if_pos h2, h3, h4, ite11, ite01, if_true, if_false]
theorem gsY_X11_unit_1_q20 {NF : Nat} {f1 : Nat → Nat → Int32} {g1 : Nat → Int64} {l1_1 : Int32} {v1 : Nat → Int32} {w1 : Int64} {v264 : Nat → Int32} {f265 : Nat → Nat → Int32} {w266 : Int64} {g267 : Nat → Int64} {v275 : Nat → Int32} {f276 : Nat → Nat → Int32} {w277 : Int64} {g278 : Nat → Int64} {v284 : Nat → Int32} {f285 : Nat → Nat → Int32} {w286 : Int64} {g287 : Nat → Int64} {k1 : Int32 → (Nat → Int32) → (Nat → Nat → Int32) → Int64 → (Nat → Int64) → ((Nat → Int32) × (Nat → Nat → Int32) × (Int64) × (Nat → Int64))} (h0 : ((v1 5) = 40)) (h1 : gsY_X11_isFull_1 NF v1 f1 w1 g1 = 0) (h2 : ¬ ((v1 14) ≤ 6)) (h3 : gsY_X11_wrong_1 NF 2 v1 f1 w1 g1 = (v264, f265, w266, g267)) (h4 : gsY_X11_countUnit_1 NF v264 f265 w266 g267 = (v275, f276, w277, g278)) (h5 : gsY_X11_openUp_1 NF 20 v275 f276 w277 g278 = (v284, f285, w286, g287)) : gsY_X11_unit_1_J204 NF f1 g1 l1_1 v1 w1 k1 = k1 l1_1 v284 f285 w286 g287 := by
  simp only [gsY_X11_unit_1_J204, if_pos h0, h1, if_neg h2, h3, h4, h5, ite11, ite01, if_true, if_false]
