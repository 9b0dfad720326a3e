def gsY_X11_formula_1_J22 (f20 : Nat → Nat → Int32) (g20 : Nat → Int64) (v20 : Nat → Int32) (w20 : Int64) : (Nat → Int32) × (Nat → Nat → Int32) × (Int64) × (Nat → Int64) :=
  if (v20 1) = 0 then
    match gsY_X11_close_1 0 v20 f20 w20 g20 with
    | (v25, f26, w27, g28) =>
      (v25, f26, w27, g28)
  else
    (v20, f20, w20, g20)
def gsY_X11_formula_1_J21 (f20 : Nat → Nat → Int32) (g20 : Nat → Int64) (v20 : Nat → Int32) (w20 : Int64) : (Nat → Int32) × (Nat → Nat → Int32) × (Int64) × (Nat → Int64) :=
  if (v20 1) = 0 then
    if gsY_X11_hasBracket_1 v20 f20 w20 g20 = 1 then
      match gsY_X11_wrong_1 2 v20 f20 w20 g20 with
      | (v42, f43, w44, g45) =>
        if (v42 1) = 0 then
          match gsY_X11_close_1 0 v42 f43 w44 g45 with
          | (v54, f55, w56, g57) =>
            (v54, f55, w56, g57)
        else
          (v42, f43, w44, g45)
    else
      gsY_X11_formula_1_J22 f20 g20 v20 w20
  else
    gsY_X11_formula_1_J22 f20 g20 v20 w20
def gsY_X11_formula_1_J71 (f20 : Nat → Nat → Int32) (g20 : Nat → Int64) (v20 : Nat → Int32) (w20 : Int64) (k20 : Int32 → (Nat → Int32) → (Nat → Nat → Int32) → Int64 → (Nat → Int64) → ((Nat → Int32) × (Nat → Nat → Int32) × (Int64) × (Nat → Int64))) : (Nat → Int32) × (Nat → Nat → Int32) × (Int64) × (Nat → Int64) :=
  k20 0 v20 f20 w20 g20
def gsY_X11_formula_1_J74 (f20 : Nat → Nat → Int32) (g20 : Nat → Int64) (l1_20 : Int32) (v20 : Nat → Int32) (w20 : Int64) (r68 : Int32) (k20 : Int32 → (Nat → Int32) → (Nat → Nat → Int32) → Int64 → (Nat → Int64) → ((Nat → Int32) × (Nat → Nat → Int32) × (Int64) × (Nat → Int64))) : (Nat → Int32) × (Nat → Nat → Int32) × (Int64) × (Nat → Int64) :=
  let r75 : Int32 := gsY_X11_tight_1 r68 v20 f20 w20 g20
  match gsY_X11_close_1 r75 v20 f20 w20 g20 with
  | (v78, f79, w80, g81) =>
    let f90 : Nat → Nat → Int32 := upd2 f79 6 (upd (f79 6) (v78 10).toNatClampNeg r68)
    let t91 : Int32 := (v78 10) + 1
    match gsY_X11_token_1 (upd v78 10 t91) f90 w80 g81 with
    | (v94, f95, w96, g97) =>
      match gsY_X11_unit_1 v94 f95 w96 g97 with
      | (v104, f105, w106, g107) =>
        k20 l1_20 v104 f105 w106 g107
def gsY_X11_formula_1_J72 (f20 : Nat → Nat → Int32) (g20 : Nat → Int64) (l1_20 : Int32) (v20 : Nat → Int32) (w20 : Int64) (r68 : Int32) (k20 : Int32 → (Nat → Int32) → (Nat → Nat → Int32) → Int64 → (Nat → Int64) → ((Nat → Int32) × (Nat → Nat → Int32) × (Int64) × (Nat → Int64))) : (Nat → Int32) × (Nat → Nat → Int32) × (Int64) × (Nat → Int64) :=
  if r68 = 0 then
    gsY_X11_formula_1_J71 f20 g20 v20 w20 k20
  else
    let r113 : Int32 := gsY_X11_tight_1 r68 v20 f20 w20 g20
    if r113 = 4 then
      if gsY_X11_hasRelation_1 v20 f20 w20 g20 = 1 then
        gsY_X11_formula_1_J71 f20 g20 v20 w20 k20
      else
        gsY_X11_formula_1_J74 f20 g20 l1_20 v20 w20 r68 k20
    else
      gsY_X11_formula_1_J74 f20 g20 l1_20 v20 w20 r68 k20
def gsY_X11_formula_1_L20 : Nat → (Int32) → (Nat → Int32) → (Nat → Nat → Int32) → (Int64) → (Nat → Int64) → (Nat → Int32) × (Nat → Nat → Int32) × (Int64) × (Nat → Int64)
  | 0, _, _, _, _, _ => ((fun _ => 0), (fun _ _ => 0), 0, (fun _ => 0))
  | n20 + 1, l1_20, v20, f20, w20, g20 =>
    if l1_20 = 0 then
      gsY_X11_formula_1_J21 f20 g20 v20 w20
    else
      if (v20 1) = 0 then
        let r68 : Int32 := gsY_X11_sign_1 v20 f20 w20 g20
        if (v20 5) = 41 then
          if gsY_X11_hasBracket_1 v20 f20 w20 g20 = 1 then
            match gsY_X11_close_1 0 v20 f20 w20 g20 with
            | (v124, f125, w126, g127) =>
              let t136 : Int32 := (v124 10) - 1
              let t138 : Int32 := (v124 14) - 1
              match gsY_X11_token_1 (upd (upd v124 10 t136) 14 t138) f125 w126 g127 with
              | (v141, f142, w143, g144) =>
                gsY_X11_formula_1_L20 n20 l1_20 v141 f142 w143 g144
          else
            gsY_X11_formula_1_J72 f20 g20 l1_20 v20 w20 r68 (fun z0 z1 z2 z3 z4 => gsY_X11_formula_1_L20 n20 z0 z1 z2 z3 z4)
        else
          gsY_X11_formula_1_J72 f20 g20 l1_20 v20 w20 r68 (fun z0 z1 z2 z3 z4 => gsY_X11_formula_1_L20 n20 z0 z1 z2 z3 z4)
      else
        gsY_X11_formula_1_J21 f20 g20 v20 w20
def gsY_X11_formula_1 (v : Nat → Int32) (f : Nat → Nat → Int32) (w : Int64) (g : Nat → Int64) : (Nat → Int32) × (Nat → Nat → Int32) × (Int64) × (Nat → Int64) :=
  match gsY_X11_token_1 v f w g with
  | (v2, f3, w4, g5) =>
    match gsY_X11_unit_1 (upd (upd (upd (upd (upd v2 15 1) 8 0) 10 0) 14 0) 13 0) f3 w4 g5 with
    | (v12, f13, w14, g15) =>
      gsY_X11_formula_1_L20 4294967296 1 v12 f13 w14 g15
theorem gsY_X11_formula_1_q17 {v : Nat → Int32} {f : Nat → Nat → Int32} {w : Int64} {g : Nat → Int64} {v2 : Nat → Int32} {f3 : Nat → Nat → Int32} {w4 : Int64} {g5 : Nat → Int64} {v12 : Nat → Int32} {f13 : Nat → Nat → Int32} {w14 : Int64} {g15 : Nat → Int64} (h0 : gsY_X11_token_1 v f w g = (v2, f3, w4, g5)) (h1 : gsY_X11_unit_1 (upd (upd (upd (upd (upd v2 15 1) 8 0) 10 0) 14 0) 13 0) f3 w4 g5 = (v12, f13, w14, g15)) : gsY_X11_formula_1 v f w g = gsY_X11_formula_1_L20 4294967296 1 v12 f13 w14 g15 := by
  simp only [gsY_X11_formula_1, h0, h1]
theorem gsY_X11_formula_1_q6 {n20 : Nat} {l1_20 : Int32} {v20 : Nat → Int32} {f20 : Nat → Nat → Int32} {w20 : Int64} {g20 : Nat → Int64} (h0 : (l1_20 = 0)) : gsY_X11_formula_1_L20 (n20 + 1) l1_20 v20 f20 w20 g20 = gsY_X11_formula_1_J21 f20 g20 v20 w20 := by
  simp only [gsY_X11_formula_1_L20, if_pos h0]
theorem gsY_X11_formula_1_q7 {n20 : Nat} {l1_20 : Int32} {v20 : Nat → Int32} {f20 : Nat → Nat → Int32} {w20 : Int64} {g20 : Nat → Int64} (h0 : ¬ (l1_20 = 0)) (h1 : ¬ ((v20 1) = 0)) : gsY_X11_formula_1_L20 (n20 + 1) l1_20 v20 f20 w20 g20 = gsY_X11_formula_1_J21 f20 g20 v20 w20 := by
  simp only [gsY_X11_formula_1_L20, if_neg h0, if_neg h1]
theorem gsY_X11_formula_1_q14 {n20 : Nat} {l1_20 : Int32} {v20 : Nat → Int32} {f20 : Nat → Nat → Int32} {w20 : Int64} {g20 : Nat → Int64} {r68 : Int32} (h0 : ¬ (l1_20 = 0)) (h1 : ((v20 1) = 0)) (h2 : r68 = gsY_X11_sign_1 v20 f20 w20 g20) (h3 : ¬ ((v20 5) = 41)) : gsY_X11_formula_1_L20 (n20 + 1) l1_20 v20 f20 w20 g20 = gsY_X11_formula_1_J72 f20 g20 l1_20 v20 w20 r68 (fun z0 z1 z2 z3 z4 => gsY_X11_formula_1_L20 n20 z0 z1 z2 z3 z4) := by
  subst h2
  simp only [gsY_X11_formula_1_L20, if_neg h0, if_pos h1, if_neg h3]
theorem gsY_X11_formula_1_q15 {n20 : Nat} {l1_20 : Int32} {v20 : Nat → Int32} {f20 : Nat → Nat → Int32} {w20 : Int64} {g20 : Nat → Int64} {r68 : Int32} {v124 : Nat → Int32} {f125 : Nat → Nat → Int32} {w126 : Int64} {g127 : Nat → Int64} {t136 : Int32} {t138 : Int32} {v141 : Nat → Int32} {f142 : Nat → Nat → Int32} {w143 : Int64} {g144 : Nat → Int64} (h0 : ¬ (l1_20 = 0)) (h1 : ((v20 1) = 0)) (h2 : r68 = gsY_X11_sign_1 v20 f20 w20 g20) (h3 : ((v20 5) = 41)) (h4 : gsY_X11_hasBracket_1 v20 f20 w20 g20 = 1) (h5 : gsY_X11_close_1 0 v20 f20 w20 g20 = (v124, f125, w126, g127)) (h6 : t136 = (v124 10) - 1) (h7 : t138 = (v124 14) - 1) (h8 : gsY_X11_token_1 (upd (upd v124 10 t136) 14 t138) f125 w126 g127 = (v141, f142, w143, g144)) : gsY_X11_formula_1_L20 (n20 + 1) l1_20 v20 f20 w20 g20 = gsY_X11_formula_1_L20 n20 l1_20 v141 f142 w143 g144 := by
  subst h2 h6 h7
  simp only [gsY_X11_formula_1_L20, if_neg h0, if_pos h1, if_pos h3, h4, h5, h8, ite11, ite01]
theorem gsY_X11_formula_1_q16 {n20 : Nat} {l1_20 : Int32} {v20 : Nat → Int32} {f20 : Nat → Nat → Int32} {w20 : Int64} {g20 : Nat → Int64} {r68 : Int32} (h0 : ¬ (l1_20 = 0)) (h1 : ((v20 1) = 0)) (h2 : r68 = gsY_X11_sign_1 v20 f20 w20 g20) (h3 : ((v20 5) = 41)) (h4 : gsY_X11_hasBracket_1 v20 f20 w20 g20 = 0) : gsY_X11_formula_1_L20 (n20 + 1) l1_20 v20 f20 w20 g20 = gsY_X11_formula_1_J72 f20 g20 l1_20 v20 w20 r68 (fun z0 z1 z2 z3 z4 => gsY_X11_formula_1_L20 n20 z0 z1 z2 z3 z4) := by
  subst h2
  simp only [gsY_X11_formula_1_L20, if_neg h0, if_pos h1, if_pos h3, h4, ite11, ite01]
theorem gsY_X11_formula_1_q2 {f20 : Nat → Nat → Int32} {g20 : Nat → Int64} {v20 : Nat → Int32} {w20 : Int64} (h0 : ¬ ((v20 1) = 0)) : gsY_X11_formula_1_J21 f20 g20 v20 w20 = gsY_X11_formula_1_J22 f20 g20 v20 w20 := by
  simp only [gsY_X11_formula_1_J21, if_neg h0]
theorem gsY_X11_formula_1_q3 {f20 : Nat → Nat → Int32} {g20 : Nat → Int64} {v20 : Nat → Int32} {w20 : Int64} {v42 : Nat → Int32} {f43 : Nat → Nat → Int32} {w44 : Int64} {g45 : Nat → Int64} (h0 : ((v20 1) = 0)) (h1 : gsY_X11_hasBracket_1 v20 f20 w20 g20 = 1) (h2 : gsY_X11_wrong_1 2 v20 f20 w20 g20 = (v42, f43, w44, g45)) (h3 : ¬ ((v42 1) = 0)) : gsY_X11_formula_1_J21 f20 g20 v20 w20 = (v42, f43, w44, g45) := by
  simp only [gsY_X11_formula_1_J21, if_pos h0, h1, h2, if_neg h3, ite11, ite01]
theorem gsY_X11_formula_1_q4 {f20 : Nat → Nat → Int32} {g20 : Nat → Int64} {v20 : Nat → Int32} {w20 : Int64} {v42 : Nat → Int32} {f43 : Nat → Nat → Int32} {w44 : Int64} {g45 : Nat → Int64} {v54 : Nat → Int32} {f55 : Nat → Nat → Int32} {w56 : Int64} {g57 : Nat → Int64} (h0 : ((v20 1) = 0)) (h1 : gsY_X11_hasBracket_1 v20 f20 w20 g20 = 1) (h2 : gsY_X11_wrong_1 2 v20 f20 w20 g20 = (v42, f43, w44, g45)) (h3 : ((v42 1) = 0)) (h4 : gsY_X11_close_1 0 v42 f43 w44 g45 = (v54, f55, w56, g57)) : gsY_X11_formula_1_J21 f20 g20 v20 w20 = (v54, f55, w56, g57) := by
  simp only [gsY_X11_formula_1_J21, if_pos h0, h1, h2, if_pos h3, h4, ite11, ite01]
theorem gsY_X11_formula_1_q5 {f20 : Nat → Nat → Int32} {g20 : Nat → Int64} {v20 : Nat → Int32} {w20 : Int64} (h0 : ((v20 1) = 0)) (h1 : gsY_X11_hasBracket_1 v20 f20 w20 g20 = 0) : gsY_X11_formula_1_J21 f20 g20 v20 w20 = gsY_X11_formula_1_J22 f20 g20 v20 w20 := by
  simp only [gsY_X11_formula_1_J21, if_pos h0, h1, ite11, ite01]
theorem gsY_X11_formula_1_q0 {f20 : Nat → Nat → Int32} {g20 : Nat → Int64} {v20 : Nat → Int32} {w20 : Int64} (h0 : ¬ ((v20 1) = 0)) : gsY_X11_formula_1_J22 f20 g20 v20 w20 = (v20, f20, w20, g20) := by
  simp only [gsY_X11_formula_1_J22, if_neg h0]
theorem gsY_X11_formula_1_q1 {f20 : Nat → Nat → Int32} {g20 : Nat → Int64} {v20 : Nat → Int32} {w20 : Int64} {v25 : Nat → Int32} {f26 : Nat → Nat → Int32} {w27 : Int64} {g28 : Nat → Int64} (h0 : ((v20 1) = 0)) (h1 : gsY_X11_close_1 0 v20 f20 w20 g20 = (v25, f26, w27, g28)) : gsY_X11_formula_1_J22 f20 g20 v20 w20 = (v25, f26, w27, g28) := by
  simp only [gsY_X11_formula_1_J22, if_pos h0, h1]
theorem gsY_X11_formula_1_q8 {f20 : Nat → Nat → Int32} {g20 : Nat → Int64} {v20 : Nat → Int32} {w20 : Int64} {k20 : Int32 → (Nat → Int32) → (Nat → Nat → Int32) → Int64 → (Nat → Int64) → ((Nat → Int32) × (Nat → Nat → Int32) × (Int64) × (Nat → Int64))}  : gsY_X11_formula_1_J71 f20 g20 v20 w20 k20 = k20 0 v20 f20 w20 g20 := by
  simp only [gsY_X11_formula_1_J71]
theorem gsY_X11_formula_1_q9 {f20 : Nat → Nat → Int32} {g20 : Nat → Int64} {l1_20 : Int32} {v20 : Nat → Int32} {w20 : Int64} {r68 : Int32} {k20 : Int32 → (Nat → Int32) → (Nat → Nat → Int32) → Int64 → (Nat → Int64) → ((Nat → Int32) × (Nat → Nat → Int32) × (Int64) × (Nat → Int64))} (h0 : (r68 = 0)) : gsY_X11_formula_1_J72 f20 g20 l1_20 v20 w20 r68 k20 = gsY_X11_formula_1_J71 f20 g20 v20 w20 k20 := by
  simp only [gsY_X11_formula_1_J72, if_pos h0]
theorem gsY_X11_formula_1_q11 {f20 : Nat → Nat → Int32} {g20 : Nat → Int64} {l1_20 : Int32} {v20 : Nat → Int32} {w20 : Int64} {r68 : Int32} {r113 : Int32} {k20 : Int32 → (Nat → Int32) → (Nat → Nat → Int32) → Int64 → (Nat → Int64) → ((Nat → Int32) × (Nat → Nat → Int32) × (Int64) × (Nat → Int64))} (h0 : ¬ (r68 = 0)) (h1 : r113 = gsY_X11_tight_1 r68 v20 f20 w20 g20) (h2 : ¬ (r113 = 4)) : gsY_X11_formula_1_J72 f20 g20 l1_20 v20 w20 r68 k20 = gsY_X11_formula_1_J74 f20 g20 l1_20 v20 w20 r68 k20 := by
  subst h1
  simp only [gsY_X11_formula_1_J72, if_neg h0, if_neg h2]
theorem gsY_X11_formula_1_q12 {f20 : Nat → Nat → Int32} {g20 : Nat → Int64} {l1_20 : Int32} {v20 : Nat → Int32} {w20 : Int64} {r68 : Int32} {r113 : Int32} {k20 : Int32 → (Nat → Int32) → (Nat → Nat → Int32) → Int64 → (Nat → Int64) → ((Nat → Int32) × (Nat → Nat → Int32) × (Int64) × (Nat → Int64))} (h0 : ¬ (r68 = 0)) (h1 : r113 = gsY_X11_tight_1 r68 v20 f20 w20 g20) (h2 : (r113 = 4)) (h3 : gsY_X11_hasRelation_1 v20 f20 w20 g20 = 1) : gsY_X11_formula_1_J72 f20 g20 l1_20 v20 w20 r68 k20 = gsY_X11_formula_1_J71 f20 g20 v20 w20 k20 := by
  subst h1
  simp only [gsY_X11_formula_1_J72, if_neg h0, if_pos h2, h3, ite11, ite01]
theorem gsY_X11_formula_1_q13 {f20 : Nat → Nat → Int32} {g20 : Nat → Int64} {l1_20 : Int32} {v20 : Nat → Int32} {w20 : Int64} {r68 : Int32} {r113 : Int32} {k20 : Int32 → (Nat → Int32) → (Nat → Nat → Int32) → Int64 → (Nat → Int64) → ((Nat → Int32) × (Nat → Nat → Int32) × (Int64) × (Nat → Int64))} (h0 : ¬ (r68 = 0)) (h1 : r113 = gsY_X11_tight_1 r68 v20 f20 w20 g20) (h2 : (r113 = 4)) (h3 : gsY_X11_hasRelation_1 v20 f20 w20 g20 = 0) : gsY_X11_formula_1_J72 f20 g20 l1_20 v20 w20 r68 k20 = gsY_X11_formula_1_J74 f20 g20 l1_20 v20 w20 r68 k20 := by
  subst h1
  simp only [gsY_X11_formula_1_J72, if_neg h0, if_pos h2, h3, ite11, ite01]
theorem gsY_X11_formula_1_q10 {f20 : Nat → Nat → Int32} {g20 : Nat → Int64} {l1_20 : Int32} {v20 : Nat → Int32} {w20 : Int64} {r68 : Int32} {r75 : Int32} {v78 : Nat → Int32} {f79 : Nat → Nat → Int32} {w80 : Int64} {g81 : Nat → Int64} {f90 : Nat → Nat → Int32} {t91 : Int32} {v94 : Nat → Int32} {f95 : Nat → Nat → Int32} {w96 : Int64} {g97 : Nat → Int64} {v104 : Nat → Int32} {f105 : Nat → Nat → Int32} {w106 : Int64} {g107 : Nat → Int64} {k20 : Int32 → (Nat → Int32) → (Nat → Nat → Int32) → Int64 → (Nat → Int64) → ((Nat → Int32) × (Nat → Nat → Int32) × (Int64) × (Nat → Int64))} (h0 : r75 = gsY_X11_tight_1 r68 v20 f20 w20 g20) (h1 : gsY_X11_close_1 r75 v20 f20 w20 g20 = (v78, f79, w80, g81)) (h2 : f90 = upd2 f79 6 (upd (f79 6) (v78 10).toNatClampNeg r68)) (h3 : t91 = (v78 10) + 1) (h4 : gsY_X11_token_1 (upd v78 10 t91) f90 w80 g81 = (v94, f95, w96, g97)) (h5 : gsY_X11_unit_1 v94 f95 w96 g97 = (v104, f105, w106, g107)) : gsY_X11_formula_1_J74 f20 g20 l1_20 v20 w20 r68 k20 = k20 l1_20 v104 f105 w106 g107 := by
  subst h0 h2 h3
  simp only [gsY_X11_formula_1_J74, h1, h4, h5]
def gsY_X11_isOwn_1 (v : Nat → Int32) (f : Nat → Nat → Int32) (w : Int64) (g : Nat → Int64) : Int32 :=
  let t1 : Int32 := lg_cmp w (7168366 : Int64)
  if t1 = 0 then
    1
  else
    let t3 : Int32 := lg_cmp w (1952541804 : Int64)
    if t3 = 0 then
      1
    else
      let t5 : Int32 := lg_cmp w (2003395685 : Int64)
      if t5 = 0 then
        1
      else
        let t7 : Int32 := lg_cmp w (444301539187 : Int64)
        if t7 = 0 then
          1
        else
          let t9 : Int32 := lg_cmp w (1668243828 : Int64)
          if t9 = 0 then
            1
          else
            let t11 : Int32 := lg_cmp w (1936023917 : Int64)
            if t11 = 0 then
              1
            else
              let t13 : Int32 := lg_cmp w (2003792494 : Int64)
              if t13 = 0 then
                1
              else
                let t15 : Int32 := lg_cmp w (6909036 : Int64)
                if t15 = 0 then
                  1
                else
                  let t17 : Int32 := lg_cmp w (1700885369 : Int64)
                  if t17 = 0 then
                    1
                  else
                    let t19 : Int32 := lg_cmp w (1651469428 : Int64)
                    if t19 = 0 then
                      1
                    else
                      let t21 : Int32 := lg_cmp w (1818848101 : Int64)
                      if t21 = 0 then
                        1
                      else
                        let t23 : Int32 := lg_cmp w (1918986606 : Int64)
                        if t23 = 0 then
                          1
                        else
                          let t25 : Int32 := lg_cmp w (1685217655 : Int64)
                          if t25 = 0 then
                            1
                          else
                            let t27 : Int32 := lg_cmp w (499984590964 : Int64)
                            if t27 = 0 then
                              1
                            else
                              let t29 : Int32 := lg_cmp w (465726042981 : Int64)
                              if t29 = 0 then
                                1
                              else
                                let t31 : Int32 := lg_cmp w (495673373300 : Int64)
                                if t31 = 0 then
                                  1
                                else
                                  let t33 : Int32 := lg_cmp w (1819242087 : Int64)
                                  if t33 = 0 then
                                    1
                                  else
                                    let t35 : Int32 := lg_cmp w (6578553 : Int64)
                                    if t35 = 0 then
                                      1
                                    else
                                      let t37 : Int32 := lg_cmp w (6385252 : Int64)
                                      if t37 = 0 then
                                        1
                                      else
                                        let t39 : Int32 := lg_cmp w (28530 : Int64)
                                        if t39 = 0 then
                                          1
                                        else
                                          let t41 : Int32 := lg_cmp w (7237492 : Int64)
                                          if t41 = 0 then
                                            1
                                          else
                                            0
theorem gsY_X11_isOwn_1_q0 {v : Nat → Int32} {f : Nat → Nat → Int32} {w : Int64} {g : Nat → Int64} {t1 : Int32} (h0 : t1 = lg_cmp w (7168366 : Int64)) (h1 : (t1 = 0)) : gsY_X11_isOwn_1 v f w g = 1 := by
  subst h0
  simp only [gsY_X11_isOwn_1, if_pos h1]
theorem gsY_X11_isOwn_1_q1 {v : Nat → Int32} {f : Nat → Nat → Int32} {w : Int64} {g : Nat → Int64} {t1 : Int32} {t3 : Int32} (h0 : t1 = lg_cmp w (7168366 : Int64)) (h1 : ¬ (t1 = 0)) (h2 : t3 = lg_cmp w (1952541804 : Int64)) (h3 : (t3 = 0)) : gsY_X11_isOwn_1 v f w g = 1 := by
  subst h0 h2
  simp only [gsY_X11_isOwn_1, if_neg h1, if_pos h3]
theorem gsY_X11_isOwn_1_q2 {v : Nat → Int32} {f : Nat → Nat → Int32} {w : Int64} {g : Nat → Int64} {t1 : Int32} {t3 : Int32} {t5 : Int32} (h0 : t1 = lg_cmp w (7168366 : Int64)) (h1 : ¬ (t1 = 0)) (h2 : t3 = lg_cmp w (1952541804 : Int64)) (h3 : ¬ (t3 = 0)) (h4 : t5 = lg_cmp w (2003395685 : Int64)) (h5 : (t5 = 0)) : gsY_X11_isOwn_1 v f w g = 1 := by
  subst h0 h2 h4
  simp only [gsY_X11_isOwn_1, if_neg h1, if_neg h3, if_pos h5]
theorem gsY_X11_isOwn_1_q3 {v : Nat → Int32} {f : Nat → Nat → Int32} {w : Int64} {g : Nat → Int64} {t1 : Int32} {t3 : Int32} {t5 : Int32} {t7 : Int32} (h0 : t1 = lg_cmp w (7168366 : Int64)) (h1 : ¬ (t1 = 0)) (h2 : t3 = lg_cmp w (1952541804 : Int64)) (h3 : ¬ (t3 = 0)) (h4 : t5 = lg_cmp w (2003395685 : Int64)) (h5 : ¬ (t5 = 0)) (h6 : t7 = lg_cmp w (444301539187 : Int64)) (h7 : (t7 = 0)) : gsY_X11_isOwn_1 v f w g = 1 := by
  subst h0 h2 h4 h6
  simp only [gsY_X11_isOwn_1, if_neg h1, if_neg h3, if_neg h5, if_pos h7]
theorem gsY_X11_isOwn_1_q4 {v : Nat → Int32} {f : Nat → Nat → Int32} {w : Int64} {g : Nat → Int64} {t1 : Int32} {t3 : Int32} {t5 : Int32} {t7 : Int32} {t9 : Int32} (h0 : t1 = lg_cmp w (7168366 : Int64)) (h1 : ¬ (t1 = 0)) (h2 : t3 = lg_cmp w (1952541804 : Int64)) (h3 : ¬ (t3 = 0)) (h4 : t5 = lg_cmp w (2003395685 : Int64)) (h5 : ¬ (t5 = 0)) (h6 : t7 = lg_cmp w (444301539187 : Int64)) (h7 : ¬ (t7 = 0)) (h8 : t9 = lg_cmp w (1668243828 : Int64)) (h9 : (t9 = 0)) : gsY_X11_isOwn_1 v f w g = 1 := by
  subst h0 h2 h4 h6 h8
  simp only [gsY_X11_isOwn_1, if_neg h1, if_neg h3, if_neg h5, if_neg h7, if_pos h9]
theorem gsY_X11_isOwn_1_q5 {v : Nat → Int32} {f : Nat → Nat → Int32} {w : Int64} {g : Nat → Int64} {t1 : Int32} {t3 : Int32} {t5 : Int32} {t7 : Int32} {t9 : Int32} {t11 : Int32} (h0 : t1 = lg_cmp w (7168366 : Int64)) (h1 : ¬ (t1 = 0)) (h2 : t3 = lg_cmp w (1952541804 : Int64)) (h3 : ¬ (t3 = 0)) (h4 : t5 = lg_cmp w (2003395685 : Int64)) (h5 : ¬ (t5 = 0)) (h6 : t7 = lg_cmp w (444301539187 : Int64)) (h7 : ¬ (t7 = 0)) (h8 : t9 = lg_cmp w (1668243828 : Int64)) (h9 : ¬ (t9 = 0)) (h10 : t11 = lg_cmp w (1936023917 : Int64)) (h11 : (t11 = 0)) : gsY_X11_isOwn_1 v f w g = 1 := by
  subst h0 h2 h4 h6 h8 h10
  simp only [gsY_X11_isOwn_1, if_neg h1, if_neg h3, if_neg h5, if_neg h7, if_neg h9, if_pos h11]
theorem gsY_X11_isOwn_1_q6 {v : Nat → Int32} {f : Nat → Nat → Int32} {w : Int64} {g : Nat → Int64} {t1 : Int32} {t3 : Int32} {t5 : Int32} {t7 : Int32} {t9 : Int32} {t11 : Int32} {t13 : Int32} (h0 : t1 = lg_cmp w (7168366 : Int64)) (h1 : ¬ (t1 = 0)) (h2 : t3 = lg_cmp w (1952541804 : Int64)) (h3 : ¬ (t3 = 0)) (h4 : t5 = lg_cmp w (2003395685 : Int64)) (h5 : ¬ (t5 = 0)) (h6 : t7 = lg_cmp w (444301539187 : Int64)) (h7 : ¬ (t7 = 0)) (h8 : t9 = lg_cmp w (1668243828 : Int64)) (h9 : ¬ (t9 = 0)) (h10 : t11 = lg_cmp w (1936023917 : Int64)) (h11 : ¬ (t11 = 0)) (h12 : t13 = lg_cmp w (2003792494 : Int64)) (h13 : (t13 = 0)) : gsY_X11_isOwn_1 v f w g = 1 := by
  subst h0 h2 h4 h6 h8 h10 h12
  simp only [gsY_X11_isOwn_1, if_neg h1, if_neg h3, if_neg h5, if_neg h7, if_neg h9, if_neg h11, if_pos h13]
theorem gsY_X11_isOwn_1_q7 {v : Nat → Int32} {f : Nat → Nat → Int32} {w : Int64} {g : Nat → Int64} {t1 : Int32} {t3 : Int32} {t5 : Int32} {t7 : Int32} {t9 : Int32} {t11 : Int32} {t13 : Int32} {t15 : Int32} (h0 : t1 = lg_cmp w (7168366 : Int64)) (h1 : ¬ (t1 = 0)) (h2 : t3 = lg_cmp w (1952541804 : Int64)) (h3 : ¬ (t3 = 0)) (h4 : t5 = lg_cmp w (2003395685 : Int64)) (h5 : ¬ (t5 = 0)) (h6 : t7 = lg_cmp w (444301539187 : Int64)) (h7 : ¬ (t7 = 0)) (h8 : t9 = lg_cmp w (1668243828 : Int64)) (h9 : ¬ (t9 = 0)) (h10 : t11 = lg_cmp w (1936023917 : Int64)) (h11 : ¬ (t11 = 0)) (h12 : t13 = lg_cmp w (2003792494 : Int64)) (h13 : ¬ (t13 = 0)) (h14 : t15 = lg_cmp w (6909036 : Int64)) (h15 : (t15 = 0)) : gsY_X11_isOwn_1 v f w g = 1 := by
  subst h0 h2 h4 h6 h8 h10 h12 h14
  simp only [gsY_X11_isOwn_1, if_neg h1, if_neg h3, if_neg h5, if_neg h7, if_neg h9, if_neg h11, if_neg h13, if_pos h15]
theorem gsY_X11_isOwn_1_q8 {v : Nat → Int32} {f : Nat → Nat → Int32} {w : Int64} {g : Nat → Int64} {t1 : Int32} {t3 : Int32} {t5 : Int32} {t7 : Int32} {t9 : Int32} {t11 : Int32} {t13 : Int32} {t15 : Int32} {t17 : Int32} (h0 : t1 = lg_cmp w (7168366 : Int64)) (h1 : ¬ (t1 = 0)) (h2 : t3 = lg_cmp w (1952541804 : Int64)) (h3 : ¬ (t3 = 0)) (h4 : t5 = lg_cmp w (2003395685 : Int64)) (h5 : ¬ (t5 = 0)) (h6 : t7 = lg_cmp w (444301539187 : Int64)) (h7 : ¬ (t7 = 0)) (h8 : t9 = lg_cmp w (1668243828 : Int64)) (h9 : ¬ (t9 = 0)) (h10 : t11 = lg_cmp w (1936023917 : Int64)) (h11 : ¬ (t11 = 0)) (h12 : t13 = lg_cmp w (2003792494 : Int64)) (h13 : ¬ (t13 = 0)) (h14 : t15 = lg_cmp w (6909036 : Int64)) (h15 : ¬ (t15 = 0)) (h16 : t17 = lg_cmp w (1700885369 : Int64)) (h17 : (t17 = 0)) : gsY_X11_isOwn_1 v f w g = 1 := by
  subst h0 h2 h4 h6 h8 h10 h12 h14 h16
  simp only [gsY_X11_isOwn_1, if_neg h1, if_neg h3, if_neg h5, if_neg h7, if_neg h9, if_neg h11, if_neg h13, if_neg h15, if_pos h17]
theorem gsY_X11_isOwn_1_q9 {v : Nat → Int32} {f : Nat → Nat → Int32} {w : Int64} {g : Nat → Int64} {t1 : Int32} {t3 : Int32} {t5 : Int32} {t7 : Int32} {t9 : Int32} {t11 : Int32} {t13 : Int32} {t15 : Int32} {t17 : Int32} {t19 : Int32} (h0 : t1 = lg_cmp w (7168366 : Int64)) (h1 : ¬ (t1 = 0)) (h2 : t3 = lg_cmp w (1952541804 : Int64)) (h3 : ¬ (t3 = 0)) (h4 : t5 = lg_cmp w (2003395685 : Int64)) (h5 : ¬ (t5 = 0)) (h6 : t7 = lg_cmp w (444301539187 : Int64)) (h7 : ¬ (t7 = 0)) (h8 : t9 = lg_cmp w (1668243828 : Int64)) (h9 : ¬ (t9 = 0)) (h10 : t11 = lg_cmp w (1936023917 : Int64)) (h11 : ¬ (t11 = 0)) (h12 : t13 = lg_cmp w (2003792494 : Int64)) (h13 : ¬ (t13 = 0)) (h14 : t15 = lg_cmp w (6909036 : Int64)) (h15 : ¬ (t15 = 0)) (h16 : t17 = lg_cmp w (1700885369 : Int64)) (h17 : ¬ (t17 = 0)) (h18 : t19 = lg_cmp w (1651469428 : Int64)) (h19 : (t19 = 0)) : gsY_X11_isOwn_1 v f w g = 1 := by
  subst h0 h2 h4 h6 h8 h10 h12 h14 h16 h18
  simp only [gsY_X11_isOwn_1, if_neg h1, if_neg h3, if_neg h5, if_neg h7, if_neg h9, if_neg h11, if_neg h13, if_neg h15, if_neg h17, if_pos h19]
theorem gsY_X11_isOwn_1_q10 {v : Nat → Int32} {f : Nat → Nat → Int32} {w : Int64} {g : Nat → Int64} {t1 : Int32} {t3 : Int32} {t5 : Int32} {t7 : Int32} {t9 : Int32} {t11 : Int32} {t13 : Int32} {t15 : Int32} {t17 : Int32} {t19 : Int32} {t21 : Int32} (h0 : t1 = lg_cmp w (7168366 : Int64)) (h1 : ¬ (t1 = 0)) (h2 : t3 = lg_cmp w (1952541804 : Int64)) (h3 : ¬ (t3 = 0)) (h4 : t5 = lg_cmp w (2003395685 : Int64)) (h5 : ¬ (t5 = 0)) (h6 : t7 = lg_cmp w (444301539187 : Int64)) (h7 : ¬ (t7 = 0)) (h8 : t9 = lg_cmp w (1668243828 : Int64)) (h9 : ¬ (t9 = 0)) (h10 : t11 = lg_cmp w (1936023917 : Int64)) (h11 : ¬ (t11 = 0)) (h12 : t13 = lg_cmp w (2003792494 : Int64)) (h13 : ¬ (t13 = 0)) (h14 : t15 = lg_cmp w (6909036 : Int64)) (h15 : ¬ (t15 = 0)) (h16 : t17 = lg_cmp w (1700885369 : Int64)) (h17 : ¬ (t17 = 0)) (h18 : t19 = lg_cmp w (1651469428 : Int64)) (h19 : ¬ (t19 = 0)) (h20 : t21 = lg_cmp w (1818848101 : Int64)) (h21 : (t21 = 0)) : gsY_X11_isOwn_1 v f w g = 1 := by
  subst h0 h2 h4 h6 h8 h10 h12 h14 h16 h18 h20
  simp only [gsY_X11_isOwn_1, if_neg h1, if_neg h3, if_neg h5, if_neg h7, if_neg h9, if_neg h11, if_neg h13, if_neg h15, if_neg h17, if_neg h19, if_pos h21]
theorem gsY_X11_isOwn_1_q11 {v : Nat → Int32} {f : Nat → Nat → Int32} {w : Int64} {g : Nat → Int64} {t1 : Int32} {t3 : Int32} {t5 : Int32} {t7 : Int32} {t9 : Int32} {t11 : Int32} {t13 : Int32} {t15 : Int32} {t17 : Int32} {t19 : Int32} {t21 : Int32} {t23 : Int32} (h0 : t1 = lg_cmp w (7168366 : Int64)) (h1 : ¬ (t1 = 0)) (h2 : t3 = lg_cmp w (1952541804 : Int64)) (h3 : ¬ (t3 = 0)) (h4 : t5 = lg_cmp w (2003395685 : Int64)) (h5 : ¬ (t5 = 0)) (h6 : t7 = lg_cmp w (444301539187 : Int64)) (h7 : ¬ (t7 = 0)) (h8 : t9 = lg_cmp w (1668243828 : Int64)) (h9 : ¬ (t9 = 0)) (h10 : t11 = lg_cmp w (1936023917 : Int64)) (h11 : ¬ (t11 = 0)) (h12 : t13 = lg_cmp w (2003792494 : Int64)) (h13 : ¬ (t13 = 0)) (h14 : t15 = lg_cmp w (6909036 : Int64)) (h15 : ¬ (t15 = 0)) (h16 : t17 = lg_cmp w (1700885369 : Int64)) (h17 : ¬ (t17 = 0)) (h18 : t19 = lg_cmp w (1651469428 : Int64)) (h19 : ¬ (t19 = 0)) (h20 : t21 = lg_cmp w (1818848101 : Int64)) (h21 : ¬ (t21 = 0)) (h22 : t23 = lg_cmp w (1918986606 : Int64)) (h23 : (t23 = 0)) : gsY_X11_isOwn_1 v f w g = 1 := by
  subst h0 h2 h4 h6 h8 h10 h12 h14 h16 h18 h20 h22
  simp only [gsY_X11_isOwn_1, if_neg h1, if_neg h3, if_neg h5, if_neg h7, if_neg h9, if_neg h11, if_neg h13, if_neg h15, if_neg h17, if_neg h19, if_neg h21, if_pos h23]
theorem gsY_X11_isOwn_1_q12 {v : Nat → Int32} {f : Nat → Nat → Int32} {w : Int64} {g : Nat → Int64} {t1 : Int32} {t3 : Int32} {t5 : Int32} {t7 : Int32} {t9 : Int32} {t11 : Int32} {t13 : Int32} {t15 : Int32} {t17 : Int32} {t19 : Int32} {t21 : Int32} {t23 : Int32} {t25 : Int32} (h0 : t1 = lg_cmp w (7168366 : Int64)) (h1 : ¬ (t1 = 0)) (h2 : t3 = lg_cmp w (1952541804 : Int64)) (h3 : ¬ (t3 = 0)) (h4 : t5 = lg_cmp w (2003395685 : Int64)) (h5 : ¬ (t5 = 0)) (h6 : t7 = lg_cmp w (444301539187 : Int64)) (h7 : ¬ (t7 = 0)) (h8 : t9 = lg_cmp w (1668243828 : Int64)) (h9 : ¬ (t9 = 0)) (h10 : t11 = lg_cmp w (1936023917 : Int64)) (h11 : ¬ (t11 = 0)) (h12 : t13 = lg_cmp w (2003792494 : Int64)) (h13 : ¬ (t13 = 0)) (h14 : t15 = lg_cmp w (6909036 : Int64)) (h15 : ¬ (t15 = 0)) (h16 : t17 = lg_cmp w (1700885369 : Int64)) (h17 : ¬ (t17 = 0)) (h18 : t19 = lg_cmp w (1651469428 : Int64)) (h19 : ¬ (t19 = 0)) (h20 : t21 = lg_cmp w (1818848101 : Int64)) (h21 : ¬ (t21 = 0)) (h22 : t23 = lg_cmp w (1918986606 : Int64)) (h23 : ¬ (t23 = 0)) (h24 : t25 = lg_cmp w (1685217655 : Int64)) (h25 : (t25 = 0)) : gsY_X11_isOwn_1 v f w g = 1 := by
  subst h0 h2 h4 h6 h8 h10 h12 h14 h16 h18 h20 h22 h24
  simp only [gsY_X11_isOwn_1, if_neg h1, if_neg h3, if_neg h5, if_neg h7, if_neg h9, if_neg h11, if_neg h13, if_neg h15, if_neg h17, if_neg h19, if_neg h21, if_neg h23, if_pos h25]
theorem gsY_X11_isOwn_1_q13 {v : Nat → Int32} {f : Nat → Nat → Int32} {w : Int64} {g : Nat → Int64} {t1 : Int32} {t3 : Int32} {t5 : Int32} {t7 : Int32} {t9 : Int32} {t11 : Int32} {t13 : Int32} {t15 : Int32} {t17 : Int32} {t19 : Int32} {t21 : Int32} {t23 : Int32} {t25 : Int32} {t27 : Int32} (h0 : t1 = lg_cmp w (7168366 : Int64)) (h1 : ¬ (t1 = 0)) (h2 : t3 = lg_cmp w (1952541804 : Int64)) (h3 : ¬ (t3 = 0)) (h4 : t5 = lg_cmp w (2003395685 : Int64)) (h5 : ¬ (t5 = 0)) (h6 : t7 = lg_cmp w (444301539187 : Int64)) (h7 : ¬ (t7 = 0)) (h8 : t9 = lg_cmp w (1668243828 : Int64)) (h9 : ¬ (t9 = 0)) (h10 : t11 = lg_cmp w (1936023917 : Int64)) (h11 : ¬ (t11 = 0)) (h12 : t13 = lg_cmp w (2003792494 : Int64)) (h13 : ¬ (t13 = 0)) (h14 : t15 = lg_cmp w (6909036 : Int64)) (h15 : ¬ (t15 = 0)) (h16 : t17 = lg_cmp w (1700885369 : Int64)) (h17 : ¬ (t17 = 0)) (h18 : t19 = lg_cmp w (1651469428 : Int64)) (h19 : ¬ (t19 = 0)) (h20 : t21 = lg_cmp w (1818848101 : Int64)) (h21 : ¬ (t21 = 0)) (h22 : t23 = lg_cmp w (1918986606 : Int64)) (h23 : ¬ (t23 = 0)) (h24 : t25 = lg_cmp w (1685217655 : Int64)) (h25 : ¬ (t25 = 0)) (h26 : t27 = lg_cmp w (499984590964 : Int64)) (h27 : (t27 = 0)) : gsY_X11_isOwn_1 v f w g = 1 := by
  subst h0 h2 h4 h6 h8 h10 h12 h14 h16 h18 h20 h22 h24 h26
  simp only [gsY_X11_isOwn_1, if_neg h1, if_neg h3, if_neg h5, if_neg h7, if_neg h9, if_neg h11, if_neg h13, if_neg h15, if_neg h17, if_neg h19, if_neg h21, if_neg h23, if_neg h25, if_pos h27]
theorem gsY_X11_isOwn_1_q14 {v : Nat → Int32} {f : Nat → Nat → Int32} {w : Int64} {g : Nat → Int64} {t1 : Int32} {t3 : Int32} {t5 : Int32} {t7 : Int32} {t9 : Int32} {t11 : Int32} {t13 : Int32} {t15 : Int32} {t17 : Int32} {t19 : Int32} {t21 : Int32} {t23 : Int32} {t25 : Int32} {t27 : Int32} {t29 : Int32} (h0 : t1 = lg_cmp w (7168366 : Int64)) (h1 : ¬ (t1 = 0)) (h2 : t3 = lg_cmp w (1952541804 : Int64)) (h3 : ¬ (t3 = 0)) (h4 : t5 = lg_cmp w (2003395685 : Int64)) (h5 : ¬ (t5 = 0)) (h6 : t7 = lg_cmp w (444301539187 : Int64)) (h7 : ¬ (t7 = 0)) (h8 : t9 = lg_cmp w (1668243828 : Int64)) (h9 : ¬ (t9 = 0)) (h10 : t11 = lg_cmp w (1936023917 : Int64)) (h11 : ¬ (t11 = 0)) (h12 : t13 = lg_cmp w (2003792494 : Int64)) (h13 : ¬ (t13 = 0)) (h14 : t15 = lg_cmp w (6909036 : Int64)) (h15 : ¬ (t15 = 0)) (h16 : t17 = lg_cmp w (1700885369 : Int64)) (h17 : ¬ (t17 = 0)) (h18 : t19 = lg_cmp w (1651469428 : Int64)) (h19 : ¬ (t19 = 0)) (h20 : t21 = lg_cmp w (1818848101 : Int64)) (h21 : ¬ (t21 = 0)) (h22 : t23 = lg_cmp w (1918986606 : Int64)) (h23 : ¬ (t23 = 0)) (h24 : t25 = lg_cmp w (1685217655 : Int64)) (h25 : ¬ (t25 = 0)) (h26 : t27 = lg_cmp w (499984590964 : Int64)) (h27 : ¬ (t27 = 0)) (h28 : t29 = lg_cmp w (465726042981 : Int64)) (h29 : (t29 = 0)) : gsY_X11_isOwn_1 v f w g = 1 := by
  subst h0 h2 h4 h6 h8 h10 h12 h14 h16 h18 h20 h22 h24 h26 h28
  simp only [gsY_X11_isOwn_1, if_neg h1, if_neg h3, if_neg h5, if_neg h7, if_neg h9, if_neg h11, if_neg h13, if_neg h15, if_neg h17, if_neg h19, if_neg h21, if_neg h23, if_neg h25, if_neg h27, if_pos h29]
theorem gsY_X11_isOwn_1_q15 {v : Nat → Int32} {f : Nat → Nat → Int32} {w : Int64} {g : Nat → Int64} {t1 : Int32} {t3 : Int32} {t5 : Int32} {t7 : Int32} {t9 : Int32} {t11 : Int32} {t13 : Int32} {t15 : Int32} {t17 : Int32} {t19 : Int32} {t21 : Int32} {t23 : Int32} {t25 : Int32} {t27 : Int32} {t29 : Int32} {t31 : Int32} (h0 : t1 = lg_cmp w (7168366 : Int64)) (h1 : ¬ (t1 = 0)) (h2 : t3 = lg_cmp w (1952541804 : Int64)) (h3 : ¬ (t3 = 0)) (h4 : t5 = lg_cmp w (2003395685 : Int64)) (h5 : ¬ (t5 = 0)) (h6 : t7 = lg_cmp w (444301539187 : Int64)) (h7 : ¬ (t7 = 0)) (h8 : t9 = lg_cmp w (1668243828 : Int64)) (h9 : ¬ (t9 = 0)) (h10 : t11 = lg_cmp w (1936023917 : Int64)) (h11 : ¬ (t11 = 0)) (h12 : t13 = lg_cmp w (2003792494 : Int64)) (h13 : ¬ (t13 = 0)) (h14 : t15 = lg_cmp w (6909036 : Int64)) (h15 : ¬ (t15 = 0)) (h16 : t17 = lg_cmp w (1700885369 : Int64)) (h17 : ¬ (t17 = 0)) (h18 : t19 = lg_cmp w (1651469428 : Int64)) (h19 : ¬ (t19 = 0)) (h20 : t21 = lg_cmp w (1818848101 : Int64)) (h21 : ¬ (t21 = 0)) (h22 : t23 = lg_cmp w (1918986606 : Int64)) (h23 : ¬ (t23 = 0)) (h24 : t25 = lg_cmp w (1685217655 : Int64)) (h25 : ¬ (t25 = 0)) (h26 : t27 = lg_cmp w (499984590964 : Int64)) (h27 : ¬ (t27 = 0)) (h28 : t29 = lg_cmp w (465726042981 : Int64)) (h29 : ¬ (t29 = 0)) (h30 : t31 = lg_cmp w (495673373300 : Int64)) (h31 : (t31 = 0)) : gsY_X11_isOwn_1 v f w g = 1 := by
  subst h0 h2 h4 h6 h8 h10 h12 h14 h16 h18 h20 h22 h24 h26 h28 h30
  simp only [gsY_X11_isOwn_1, if_neg h1, if_neg h3, if_neg h5, if_neg h7, if_neg h9, if_neg h11, if_neg h13, if_neg h15, if_neg h17, if_neg h19, if_neg h21, if_neg h23, if_neg h25, if_neg h27, if_neg h29, if_pos h31]
theorem gsY_X11_isOwn_1_q16 {v : Nat → Int32} {f : Nat → Nat → Int32} {w : Int64} {g : Nat → Int64} {t1 : Int32} {t3 : Int32} {t5 : Int32} {t7 : Int32} {t9 : Int32} {t11 : Int32} {t13 : Int32} {t15 : Int32} {t17 : Int32} {t19 : Int32} {t21 : Int32} {t23 : Int32} {t25 : Int32} {t27 : Int32} {t29 : Int32} {t31 : Int32} {t33 : Int32} (h0 : t1 = lg_cmp w (7168366 : Int64)) (h1 : ¬ (t1 = 0)) (h2 : t3 = lg_cmp w (1952541804 : Int64)) (h3 : ¬ (t3 = 0)) (h4 : t5 = lg_cmp w (2003395685 : Int64)) (h5 : ¬ (t5 = 0)) (h6 : t7 = lg_cmp w (444301539187 : Int64)) (h7 : ¬ (t7 = 0)) (h8 : t9 = lg_cmp w (1668243828 : Int64)) (h9 : ¬ (t9 = 0)) (h10 : t11 = lg_cmp w (1936023917 : Int64)) (h11 : ¬ (t11 = 0)) (h12 : t13 = lg_cmp w (2003792494 : Int64)) (h13 : ¬ (t13 = 0)) (h14 : t15 = lg_cmp w (6909036 : Int64)) (h15 : ¬ (t15 = 0)) (h16 : t17 = lg_cmp w (1700885369 : Int64)) (h17 : ¬ (t17 = 0)) (h18 : t19 = lg_cmp w (1651469428 : Int64)) (h19 : ¬ (t19 = 0)) (h20 : t21 = lg_cmp w (1818848101 : Int64)) (h21 : ¬ (t21 = 0)) (h22 : t23 = lg_cmp w (1918986606 : Int64)) (h23 : ¬ (t23 = 0)) (h24 : t25 = lg_cmp w (1685217655 : Int64)) (h25 : ¬ (t25 = 0)) (h26 : t27 = lg_cmp w (499984590964 : Int64)) (h27 : ¬ (t27 = 0)) (h28 : t29 = lg_cmp w (465726042981 : Int64)) (h29 : ¬ (t29 = 0)) (h30 : t31 = lg_cmp w (495673373300 : Int64)) (h31 : ¬ (t31 = 0)) (h32 : t33 = lg_cmp w (1819242087 : Int64)) (h33 : (t33 = 0)) : gsY_X11_isOwn_1 v f w g = 1 := by
  subst h0 h2 h4 h6 h8 h10 h12 h14 h16 h18 h20 h22 h24 h26 h28 h30 h32
  simp only [gsY_X11_isOwn_1, if_neg h1, if_neg h3, if_neg h5, if_neg h7, if_neg h9, if_neg h11, if_neg h13, if_neg h15, if_neg h17, if_neg h19, if_neg h21, if_neg h23, if_neg h25, if_neg h27, if_neg h29, if_neg h31, if_pos h33]
theorem gsY_X11_isOwn_1_q17 {v : Nat → Int32} {f : Nat → Nat → Int32} {w : Int64} {g : Nat → Int64} {t1 : Int32} {t3 : Int32} {t5 : Int32} {t7 : Int32} {t9 : Int32} {t11 : Int32} {t13 : Int32} {t15 : Int32} {t17 : Int32} {t19 : Int32} {t21 : Int32} {t23 : Int32} {t25 : Int32} {t27 : Int32} {t29 : Int32} {t31 : Int32} {t33 : Int32} {t35 : Int32} (h0 : t1 = lg_cmp w (7168366 : Int64)) (h1 : ¬ (t1 = 0)) (h2 : t3 = lg_cmp w (1952541804 : Int64)) (h3 : ¬ (t3 = 0)) (h4 : t5 = lg_cmp w (2003395685 : Int64)) (h5 : ¬ (t5 = 0)) (h6 : t7 = lg_cmp w (444301539187 : Int64)) (h7 : ¬ (t7 = 0)) (h8 : t9 = lg_cmp w (1668243828 : Int64)) (h9 : ¬ (t9 = 0)) (h10 : t11 = lg_cmp w (1936023917 : Int64)) (h11 : ¬ (t11 = 0)) (h12 : t13 = lg_cmp w (2003792494 : Int64)) (h13 : ¬ (t13 = 0)) (h14 : t15 = lg_cmp w (6909036 : Int64)) (h15 : ¬ (t15 = 0)) (h16 : t17 = lg_cmp w (1700885369 : Int64)) (h17 : ¬ (t17 = 0)) (h18 : t19 = lg_cmp w (1651469428 : Int64)) (h19 : ¬ (t19 = 0)) (h20 : t21 = lg_cmp w (1818848101 : Int64)) (h21 : ¬ (t21 = 0)) (h22 : t23 = lg_cmp w (1918986606 : Int64)) (h23 : ¬ (t23 = 0)) (h24 : t25 = lg_cmp w (1685217655 : Int64)) (h25 : ¬ (t25 = 0)) (h26 : t27 = lg_cmp w (499984590964 : Int64)) (h27 : ¬ (t27 = 0)) (h28 : t29 = lg_cmp w (465726042981 : Int64)) (h29 : ¬ (t29 = 0)) (h30 : t31 = lg_cmp w (495673373300 : Int64)) (h31 : ¬ (t31 = 0)) (h32 : t33 = lg_cmp w (1819242087 : Int64)) (h33 : ¬ (t33 = 0)) (h34 : t35 = lg_cmp w (6578553 : Int64)) (h35 : (t35 = 0)) : gsY_X11_isOwn_1 v f w g = 1 := by
  subst h0 h2 h4 h6 h8 h10 h12 h14 h16 h18 h20 h22 h24 h26 h28 h30 h32 h34
  simp only [gsY_X11_isOwn_1, if_neg h1, if_neg h3, if_neg h5, if_neg h7, if_neg h9, if_neg h11, if_neg h13, if_neg h15, if_neg h17, if_neg h19, if_neg h21, if_neg h23, if_neg h25, if_neg h27, if_neg h29, if_neg h31, if_neg h33, if_pos h35]
theorem gsY_X11_isOwn_1_q18 {v : Nat → Int32} {f : Nat → Nat → Int32} {w : Int64} {g : Nat → Int64} {t1 : Int32} {t3 : Int32} {t5 : Int32} {t7 : Int32} {t9 : Int32} {t11 : Int32} {t13 : Int32} {t15 : Int32} {t17 : Int32} {t19 : Int32} {t21 : Int32} {t23 : Int32} {t25 : Int32} {t27 : Int32} {t29 : Int32} {t31 : Int32} {t33 : Int32} {t35 : Int32} {t37 : Int32} (h0 : t1 = lg_cmp w (7168366 : Int64)) (h1 : ¬ (t1 = 0)) (h2 : t3 = lg_cmp w (1952541804 : Int64)) (h3 : ¬ (t3 = 0)) (h4 : t5 = lg_cmp w (2003395685 : Int64)) (h5 : ¬ (t5 = 0)) (h6 : t7 = lg_cmp w (444301539187 : Int64)) (h7 : ¬ (t7 = 0)) (h8 : t9 = lg_cmp w (1668243828 : Int64)) (h9 : ¬ (t9 = 0)) (h10 : t11 = lg_cmp w (1936023917 : Int64)) (h11 : ¬ (t11 = 0)) (h12 : t13 = lg_cmp w (2003792494 : Int64)) (h13 : ¬ (t13 = 0)) (h14 : t15 = lg_cmp w (6909036 : Int64)) (h15 : ¬ (t15 = 0)) (h16 : t17 = lg_cmp w (1700885369 : Int64)) (h17 : ¬ (t17 = 0)) (h18 : t19 = lg_cmp w (1651469428 : Int64)) (h19 : ¬ (t19 = 0)) (h20 : t21 = lg_cmp w (1818848101 : Int64)) (h21 : ¬ (t21 = 0)) (h22 : t23 = lg_cmp w (1918986606 : Int64)) (h23 : ¬ (t23 = 0)) (h24 : t25 = lg_cmp w (1685217655 : Int64)) (h25 : ¬ (t25 = 0)) (h26 : t27 = lg_cmp w (499984590964 : Int64)) (h27 : ¬ (t27 = 0)) (h28 : t29 = lg_cmp w (465726042981 : Int64)) (h29 : ¬ (t29 = 0)) (h30 : t31 = lg_cmp w (495673373300 : Int64)) (h31 : ¬ (t31 = 0)) (h32 : t33 = lg_cmp w (1819242087 : Int64)) (h33 : ¬ (t33 = 0)) (h34 : t35 = lg_cmp w (6578553 : Int64)) (h35 : ¬ (t35 = 0)) (h36 : t37 = lg_cmp w (6385252 : Int64)) (h37 : (t37 = 0)) : gsY_X11_isOwn_1 v f w g = 1 := by
  subst h0 h2 h4 h6 h8 h10 h12 h14 h16 h18 h20 h22 h24 h26 h28 h30 h32 h34 h36
  simp only [gsY_X11_isOwn_1, if_neg h1, if_neg h3, if_neg h5, if_neg h7, if_neg h9, if_neg h11, if_neg h13, if_neg h15, if_neg h17, if_neg h19, if_neg h21, if_neg h23, if_neg h25, if_neg h27, if_neg h29, if_neg h31, if_neg h33, if_neg h35, if_pos h37]
theorem gsY_X11_isOwn_1_q19 {v : Nat → Int32} {f : Nat → Nat → Int32} {w : Int64} {g : Nat → Int64} {t1 : Int32} {t3 : Int32} {t5 : Int32} {t7 : Int32} {t9 : Int32} {t11 : Int32} {t13 : Int32} {t15 : Int32} {t17 : Int32} {t19 : Int32} {t21 : Int32} {t23 : Int32} {t25 : Int32} {t27 : Int32} {t29 : Int32} {t31 : Int32} {t33 : Int32} {t35 : Int32} {t37 : Int32} {t39 : Int32} (h0 : t1 = lg_cmp w (7168366 : Int64)) (h1 : ¬ (t1 = 0)) (h2 : t3 = lg_cmp w (1952541804 : Int64)) (h3 : ¬ (t3 = 0)) (h4 : t5 = lg_cmp w (2003395685 : Int64)) (h5 : ¬ (t5 = 0)) (h6 : t7 = lg_cmp w (444301539187 : Int64)) (h7 : ¬ (t7 = 0)) (h8 : t9 = lg_cmp w (1668243828 : Int64)) (h9 : ¬ (t9 = 0)) (h10 : t11 = lg_cmp w (1936023917 : Int64)) (h11 : ¬ (t11 = 0)) (h12 : t13 = lg_cmp w (2003792494 : Int64)) (h13 : ¬ (t13 = 0)) (h14 : t15 = lg_cmp w (6909036 : Int64)) (h15 : ¬ (t15 = 0)) (h16 : t17 = lg_cmp w (1700885369 : Int64)) (h17 : ¬ (t17 = 0)) (h18 : t19 = lg_cmp w (1651469428 : Int64)) (h19 : ¬ (t19 = 0)) (h20 : t21 = lg_cmp w (1818848101 : Int64)) (h21 : ¬ (t21 = 0)) (h22 : t23 = lg_cmp w (1918986606 : Int64)) (h23 : ¬ (t23 = 0)) (h24 : t25 = lg_cmp w (1685217655 : Int64)) (h25 : ¬ (t25 = 0)) (h26 : t27 = lg_cmp w (499984590964 : Int64)) (h27 : ¬ (t27 = 0)) (h28 : t29 = lg_cmp w (465726042981 : Int64)) (h29 : ¬ (t29 = 0)) (h30 : t31 = lg_cmp w (495673373300 : Int64)) (h31 : ¬ (t31 = 0)) (h32 : t33 = lg_cmp w (1819242087 : Int64)) (h33 : ¬ (t33 = 0)) (h34 : t35 = lg_cmp w (6578553 : Int64)) (h35 : ¬ (t35 = 0)) (h36 : t37 = lg_cmp w (6385252 : Int64)) (h37 : ¬ (t37 = 0)) (h38 : t39 = lg_cmp w (28530 : Int64)) (h39 : (t39 = 0)) : gsY_X11_isOwn_1 v f w g = 1 := by
  subst h0 h2 h4 h6 h8 h10 h12 h14 h16 h18 h20 h22 h24 h26 h28 h30 h32 h34 h36 h38
  simp only [gsY_X11_isOwn_1, if_neg h1, if_neg h3, if_neg h5, if_neg h7, if_neg h9, if_neg h11, if_neg h13, if_neg h15, if_neg h17, if_neg h19, if_neg h21, if_neg h23, if_neg h25, if_neg h27, if_neg h29, if_neg h31, if_neg h33, if_neg h35, if_neg h37, if_pos h39]
theorem gsY_X11_isOwn_1_q20 {v : Nat → Int32} {f : Nat → Nat → Int32} {w : Int64} {g : Nat → Int64} {t1 : Int32} {t3 : Int32} {t5 : Int32} {t7 : Int32} {t9 : Int32} {t11 : Int32} {t13 : Int32} {t15 : Int32} {t17 : Int32} {t19 : Int32} {t21 : Int32} {t23 : Int32} {t25 : Int32} {t27 : Int32} {t29 : Int32} {t31 : Int32} {t33 : Int32} {t35 : Int32} {t37 : Int32} {t39 : Int32} {t41 : Int32} (h0 : t1 = lg_cmp w (7168366 : Int64)) (h1 : ¬ (t1 = 0)) (h2 : t3 = lg_cmp w (1952541804 : Int64)) (h3 : ¬ (t3 = 0)) (h4 : t5 = lg_cmp w (2003395685 : Int64)) (h5 : ¬ (t5 = 0)) (h6 : t7 = lg_cmp w (444301539187 : Int64)) (h7 : ¬ (t7 = 0)) (h8 : t9 = lg_cmp w (1668243828 : Int64)) (h9 : ¬ (t9 = 0)) (h10 : t11 = lg_cmp w (1936023917 : Int64)) (h11 : ¬ (t11 = 0)) (h12 : t13 = lg_cmp w (2003792494 : Int64)) (h13 : ¬ (t13 = 0)) (h14 : t15 = lg_cmp w (6909036 : Int64)) (h15 : ¬ (t15 = 0)) (h16 : t17 = lg_cmp w (1700885369 : Int64)) (h17 : ¬ (t17 = 0)) (h18 : t19 = lg_cmp w (1651469428 : Int64)) (h19 : ¬ (t19 = 0)) (h20 : t21 = lg_cmp w (1818848101 : Int64)) (h21 : ¬ (t21 = 0)) (h22 : t23 = lg_cmp w (1918986606 : Int64)) (h23 : ¬ (t23 = 0)) (h24 : t25 = lg_cmp w (1685217655 : Int64)) (h25 : ¬ (t25 = 0)) (h26 : t27 = lg_cmp w (499984590964 : Int64)) (h27 : ¬ (t27 = 0)) (h28 : t29 = lg_cmp w (465726042981 : Int64)) (h29 : ¬ (t29 = 0)) (h30 : t31 = lg_cmp w (495673373300 : Int64)) (h31 : ¬ (t31 = 0)) (h32 : t33 = lg_cmp w (1819242087 : Int64)) (h33 : ¬ (t33 = 0)) (h34 : t35 = lg_cmp w (6578553 : Int64)) (h35 : ¬ (t35 = 0)) (h36 : t37 = lg_cmp w (6385252 : Int64)) (h37 : ¬ (t37 = 0)) (h38 : t39 = lg_cmp w (28530 : Int64)) (h39 : ¬ (t39 = 0)) (h40 : t41 = lg_cmp w (7237492 : Int64)) (h41 : ¬ (t41 = 0)) : gsY_X11_isOwn_1 v f w g = 0 := by
  subst h0 h2 h4 h6 h8 h10 h12 h14 h16 h18 h20 h22 h24 h26 h28 h30 h32 h34 h36 h38 h40
  simp only [gsY_X11_isOwn_1, if_neg h1, if_neg h3, if_neg h5, if_neg h7, if_neg h9, if_neg h11, if_neg h13, if_neg h15, if_neg h17, if_neg h19, if_neg h21, if_neg h23, if_neg h25, if_neg h27, if_neg h29, if_neg h31, if_neg h33, if_neg h35, if_neg h37, if_neg h39, if_neg h41]
theorem gsY_X11_isOwn_1_q21 {v : Nat → Int32} {f : Nat → Nat → Int32} {w : Int64} {g : Nat → Int64} {t1 : Int32} {t3 : Int32} {t5 : Int32} {t7 : Int32} {t9 : Int32} {t11 : Int32} {t13 : Int32} {t15 : Int32} {t17 : Int32} {t19 : Int32} {t21 : Int32} {t23 : Int32} {t25 : Int32} {t27 : Int32} {t29 : Int32} {t31 : Int32} {t33 : Int32} {t35 : Int32} {t37 : Int32} {t39 : Int32} {t41 : Int32} (h0 : t1 = lg_cmp w (7168366 : Int64)) (h1 : ¬ (t1 = 0)) (h2 : t3 = lg_cmp w (1952541804 : Int64)) (h3 : ¬ (t3 = 0)) (h4 : t5 = lg_cmp w (2003395685 : Int64)) (h5 : ¬ (t5 = 0)) (h6 : t7 = lg_cmp w (444301539187 : Int64)) (h7 : ¬ (t7 = 0)) (h8 : t9 = lg_cmp w (1668243828 : Int64)) (h9 : ¬ (t9 = 0)) (h10 : t11 = lg_cmp w (1936023917 : Int64)) (h11 : ¬ (t11 = 0)) (h12 : t13 = lg_cmp w (2003792494 : Int64)) (h13 : ¬ (t13 = 0)) (h14 : t15 = lg_cmp w (6909036 : Int64)) (h15 : ¬ (t15 = 0)) (h16 : t17 = lg_cmp w (1700885369 : Int64)) (h17 : ¬ (t17 = 0)) (h18 : t19 = lg_cmp w (1651469428 : Int64)) (h19 : ¬ (t19 = 0)) (h20 : t21 = lg_cmp w (1818848101 : Int64)) (h21 : ¬ (t21 = 0)) (h22 : t23 = lg_cmp w (1918986606 : Int64)) (h23 : ¬ (t23 = 0)) (h24 : t25 = lg_cmp w (1685217655 : Int64)) (h25 : ¬ (t25 = 0)) (h26 : t27 = lg_cmp w (499984590964 : Int64)) (h27 : ¬ (t27 = 0)) (h28 : t29 = lg_cmp w (465726042981 : Int64)) (h29 : ¬ (t29 = 0)) (h30 : t31 = lg_cmp w (495673373300 : Int64)) (h31 : ¬ (t31 = 0)) (h32 : t33 = lg_cmp w (1819242087 : Int64)) (h33 : ¬ (t33 = 0)) (h34 : t35 = lg_cmp w (6578553 : Int64)) (h35 : ¬ (t35 = 0)) (h36 : t37 = lg_cmp w (6385252 : Int64)) (h37 : ¬ (t37 = 0)) (h38 : t39 = lg_cmp w (28530 : Int64)) (h39 : ¬ (t39 = 0)) (h40 : t41 = lg_cmp w (7237492 : Int64)) (h41 : (t41 = 0)) : gsY_X11_isOwn_1 v f w g = 1 := by
  subst h0 h2 h4 h6 h8 h10 h12 h14 h16 h18 h20 h22 h24 h26 h28 h30 h32 h34 h36 h38 h40
  simp only [gsY_X11_isOwn_1, if_neg h1, if_neg h3, if_neg h5, if_neg h7, if_neg h9, if_neg h11, if_neg h13, if_neg h15, if_neg h17, if_neg h19, if_neg h21, if_neg h23, if_neg h25, if_neg h27, if_neg h29, if_neg h31, if_neg h33, if_neg h35, if_neg h37, if_neg h39, if_pos h41]
def gsY_X11_isName_1 (v : Nat → Int32) (f : Nat → Nat → Int32) (w : Int64) (g : Nat → Int64) : Int32 :=
  if (v 5) = 1 then
    if gsY_X11_isOwn_1 v f w g = 1 then
      0
    else
      1
  else
    0
theorem gsY_X11_isName_1_q0 {v : Nat → Int32} {f : Nat → Nat → Int32} {w : Int64} {g : Nat → Int64} (h0 : ¬ ((v 5) = 1)) : gsY_X11_isName_1 v f w g = 0 := by
  simp only [gsY_X11_isName_1, if_neg h0]
theorem gsY_X11_isName_1_q1 {v : Nat → Int32} {f : Nat → Nat → Int32} {w : Int64} {g : Nat → Int64} (h0 : ((v 5) = 1)) (h1 : gsY_X11_isOwn_1 v f w g = 1) : gsY_X11_isName_1 v f w g = 0 := by
  simp only [gsY_X11_isName_1, if_pos h0, h1, ite11, ite01]
theorem gsY_X11_isName_1_q2 {v : Nat → Int32} {f : Nat → Nat → Int32} {w : Int64} {g : Nat → Int64} (h0 : ((v 5) = 1)) (h1 : gsY_X11_isOwn_1 v f w g = 0) : gsY_X11_isName_1 v f w g = 1 := by
  simp only [gsY_X11_isName_1, if_pos h0, h1, ite11, ite01]
def gsY_X11_newName_1_L14 (p1 : Int32) (p2 : Int32) : Nat → (Int32) → (Nat → Int32) → (Nat → Nat → Int32) → (Int64) → (Nat → Int64) → (Nat → Int32) × (Nat → Nat → Int32) × (Int64) × (Nat → Int64)
  | 0, _, _, _, _, _ => ((fun _ => 0), (fun _ _ => 0), 0, (fun _ => 0))
  | n14 + 1, l3_14, v14, f14, w14, g14 =>
    if p2 ≤ l3_14 then
      if (v14 1) ≤ 0 then
        let t19 : Int32 := p1 + p2
        let g21 : Nat → Int64 := vp_updL g14 (t19).toNatClampNeg w14
        match gsY_X11_token_1 v14 f14 w14 g21 with
        | (v23, f24, w25, g26) =>
          (v23, f24, w25, g26)
      else
        (v14, f14, w14, g14)
    else
      if (v14 1) = 0 then
        let t49 : Int32 := p1 + l3_14
        let j51 : Int64 := g14 (t49).toNatClampNeg
        let t52 : Int32 := lg_cmp j51 w14
        if t52 = 0 then
          match gsY_X11_wrong_1 3 v14 f14 w14 g14 with
          | (v57, f58, w59, g60) =>
            let t67 : Int32 := l3_14 + 1
            gsY_X11_newName_1_L14 p1 p2 n14 t67 v57 f58 w59 g60
        else
          let t54 : Int32 := l3_14 + 1
          gsY_X11_newName_1_L14 p1 p2 n14 t54 v14 f14 w14 g14
      else
        if (v14 1) ≤ 0 then
          let t36 : Int32 := p1 + p2
          let g38 : Nat → Int64 := vp_updL g14 (t36).toNatClampNeg w14
          match gsY_X11_token_1 v14 f14 w14 g38 with
          | (v40, f41, w42, g43) =>
            (v40, f41, w42, g43)
        else
          (v14, f14, w14, g14)
def gsY_X11_newName_1_L80 (p1 : Int32) (p2 : Int32) : Nat → (Int32) → (Nat → Int32) → (Nat → Nat → Int32) → (Int64) → (Nat → Int64) → (Nat → Int32) × (Nat → Nat → Int32) × (Int64) × (Nat → Int64)
  | 0, _, _, _, _, _ => ((fun _ => 0), (fun _ _ => 0), 0, (fun _ => 0))
  | n80 + 1, l3_80, v80, f80, w80, g80 =>
    if p2 ≤ l3_80 then
      if (v80 1) ≤ 0 then
        let t85 : Int32 := p1 + p2
        let g87 : Nat → Int64 := vp_updL g80 (t85).toNatClampNeg w80
        match gsY_X11_token_1 v80 f80 w80 g87 with
        | (v89, f90, w91, g92) =>
          (v89, f90, w91, g92)
      else
        (v80, f80, w80, g80)
    else
      if (v80 1) = 0 then
        let t115 : Int32 := p1 + l3_80
        let j117 : Int64 := g80 (t115).toNatClampNeg
        let t118 : Int32 := lg_cmp j117 w80
        if t118 = 0 then
          match gsY_X11_wrong_1 3 v80 f80 w80 g80 with
          | (v123, f124, w125, g126) =>
            let t133 : Int32 := l3_80 + 1
            gsY_X11_newName_1_L80 p1 p2 n80 t133 v123 f124 w125 g126
        else
          let t120 : Int32 := l3_80 + 1
          gsY_X11_newName_1_L80 p1 p2 n80 t120 v80 f80 w80 g80
      else
        if (v80 1) ≤ 0 then
          let t102 : Int32 := p1 + p2
          let g104 : Nat → Int64 := vp_updL g80 (t102).toNatClampNeg w80
          match gsY_X11_token_1 v80 f80 w80 g104 with
          | (v106, f107, w108, g109) =>
            (v106, f107, w108, g109)
        else
          (v80, f80, w80, g80)
def gsY_X11_newName_1 (p1 : Int32) (p2 : Int32) (v : Nat → Int32) (f : Nat → Nat → Int32) (w : Int64) (g : Nat → Int64) : (Nat → Int32) × (Nat → Nat → Int32) × (Int64) × (Nat → Int64) :=
  match gsY_X11_token_1 v f w g with
  | (v2, f3, w4, g5) =>
    if gsY_X11_isName_1 v2 f3 w4 g5 = 1 then
      gsY_X11_newName_1_L14 p1 p2 4294967296 0 v2 f3 w4 g5
    else
      match gsY_X11_wrong_1 2 v2 f3 w4 g5 with
      | (v70, f71, w72, g73) =>
        gsY_X11_newName_1_L80 p1 p2 4294967296 0 v70 f71 w72 g73
theorem gsY_X11_newName_1_q6 {p1 : Int32} {p2 : Int32} {v : Nat → Int32} {f : Nat → Nat → Int32} {w : Int64} {g : Nat → Int64} {v2 : Nat → Int32} {f3 : Nat → Nat → Int32} {w4 : Int64} {g5 : Nat → Int64} (h0 : gsY_X11_token_1 v f w g = (v2, f3, w4, g5)) (h1 : gsY_X11_isName_1 v2 f3 w4 g5 = 1) : gsY_X11_newName_1 p1 p2 v f w g = gsY_X11_newName_1_L14 p1 p2 4294967296 0 v2 f3 w4 g5 := by
  simp only [gsY_X11_newName_1, h0, h1, ite11, ite01]
theorem gsY_X11_newName_1_q13 {p1 : Int32} {p2 : Int32} {v : Nat → Int32} {f : Nat → Nat → Int32} {w : Int64} {g : Nat → Int64} {v2 : Nat → Int32} {f3 : Nat → Nat → Int32} {w4 : Int64} {g5 : Nat → Int64} {v70 : Nat → Int32} {f71 : Nat → Nat → Int32} {w72 : Int64} {g73 : Nat → Int64} (h0 : gsY_X11_token_1 v f w g = (v2, f3, w4, g5)) (h1 : gsY_X11_isName_1 v2 f3 w4 g5 = 0) (h2 : gsY_X11_wrong_1 2 v2 f3 w4 g5 = (v70, f71, w72, g73)) : gsY_X11_newName_1 p1 p2 v f w g = gsY_X11_newName_1_L80 p1 p2 4294967296 0 v70 f71 w72 g73 := by
  simp only [gsY_X11_newName_1, h0, h1, h2, ite11, ite01]
theorem gsY_X11_newName_1_q0 {p1 : Int32} {p2 : Int32} {n14 : Nat} {l3_14 : Int32} {v14 : Nat → Int32} {f14 : Nat → Nat → Int32} {w14 : Int64} {g14 : Nat → Int64} {t19 : Int32} {g21 : Nat → Int64} {v23 : Nat → Int32} {f24 : Nat → Nat → Int32} {w25 : Int64} {g26 : Nat → Int64} (h0 : (p2 ≤ l3_14)) (h1 : ((v14 1) ≤ 0)) (h2 : t19 = p1 + p2) (h3 : g21 = vp_updL g14 (t19).toNatClampNeg w14) (h4 : gsY_X11_token_1 v14 f14 w14 g21 = (v23, f24, w25, g26)) : gsY_X11_newName_1_L14 p1 p2 (n14 + 1) l3_14 v14 f14 w14 g14 = (v23, f24, w25, g26) := by
  subst h2 h3
  simp only [gsY_X11_newName_1_L14, if_pos h0, if_pos h1, h4]
theorem gsY_X11_newName_1_q1 {p1 : Int32} {p2 : Int32} {n14 : Nat} {l3_14 : Int32} {v14 : Nat → Int32} {f14 : Nat → Nat → Int32} {w14 : Int64} {g14 : Nat → Int64} (h0 : (p2 ≤ l3_14)) (h1 : ¬ ((v14 1) ≤ 0)) : gsY_X11_newName_1_L14 p1 p2 (n14 + 1) l3_14 v14 f14 w14 g14 = (v14, f14, w14, g14) := by
  simp only [gsY_X11_newName_1_L14, if_pos h0, if_neg h1]
theorem gsY_X11_newName_1_q2 {p1 : Int32} {p2 : Int32} {n14 : Nat} {l3_14 : Int32} {v14 : Nat → Int32} {f14 : Nat → Nat → Int32} {w14 : Int64} {g14 : Nat → Int64} {t36 : Int32} {g38 : Nat → Int64} {v40 : Nat → Int32} {f41 : Nat → Nat → Int32} {w42 : Int64} {g43 : Nat → Int64} (h0 : ¬ (p2 ≤ l3_14)) (h1 : ¬ ((v14 1) = 0)) (h2 : ((v14 1) ≤ 0)) (h3 : t36 = p1 + p2) (h4 : g38 = vp_updL g14 (t36).toNatClampNeg w14) (h5 : gsY_X11_token_1 v14 f14 w14 g38 = (v40, f41, w42, g43)) : gsY_X11_newName_1_L14 p1 p2 (n14 + 1) l3_14 v14 f14 w14 g14 = (v40, f41, w42, g43) := by
  subst h3 h4
  simp only [gsY_X11_newName_1_L14, if_neg h0, if_neg h1, if_pos h2, h5]
theorem gsY_X11_newName_1_q3 {p1 : Int32} {p2 : Int32} {n14 : Nat} {l3_14 : Int32} {v14 : Nat → Int32} {f14 : Nat → Nat → Int32} {w14 : Int64} {g14 : Nat → Int64} (h0 : ¬ (p2 ≤ l3_14)) (h1 : ¬ ((v14 1) = 0)) (h2 : ¬ ((v14 1) ≤ 0)) : gsY_X11_newName_1_L14 p1 p2 (n14 + 1) l3_14 v14 f14 w14 g14 = (v14, f14, w14, g14) := by
  simp only [gsY_X11_newName_1_L14, if_neg h0, if_neg h1, if_neg h2]
theorem gsY_X11_newName_1_q4 {p1 : Int32} {p2 : Int32} {n14 : Nat} {l3_14 : Int32} {v14 : Nat → Int32} {f14 : Nat → Nat → Int32} {w14 : Int64} {g14 : Nat → Int64} {t49 : Int32} {j51 : Int64} {t52 : Int32} {t54 : Int32} (h0 : ¬ (p2 ≤ l3_14)) (h1 : ((v14 1) = 0)) (h2 : t49 = p1 + l3_14) (h3 : j51 = g14 (t49).toNatClampNeg) (h4 : t52 = lg_cmp j51 w14) (h5 : ¬ (t52 = 0)) (h6 : t54 = l3_14 + 1) : gsY_X11_newName_1_L14 p1 p2 (n14 + 1) l3_14 v14 f14 w14 g14 = gsY_X11_newName_1_L14 p1 p2 n14 t54 v14 f14 w14 g14 := by
  subst h2 h3 h4 h6
  simp only [gsY_X11_newName_1_L14, if_neg h0, if_pos h1, if_neg h5]
theorem gsY_X11_newName_1_q5 {p1 : Int32} {p2 : Int32} {n14 : Nat} {l3_14 : Int32} {v14 : Nat → Int32} {f14 : Nat → Nat → Int32} {w14 : Int64} {g14 : Nat → Int64} {t49 : Int32} {j51 : Int64} {t52 : Int32} {v57 : Nat → Int32} {f58 : Nat → Nat → Int32} {w59 : Int64} {g60 : Nat → Int64} {t67 : Int32} (h0 : ¬ (p2 ≤ l3_14)) (h1 : ((v14 1) = 0)) (h2 : t49 = p1 + l3_14) (h3 : j51 = g14 (t49).toNatClampNeg) (h4 : t52 = lg_cmp j51 w14) (h5 : (t52 = 0)) (h6 : gsY_X11_wrong_1 3 v14 f14 w14 g14 = (v57, f58, w59, g60)) (h7 : t67 = l3_14 + 1) : gsY_X11_newName_1_L14 p1 p2 (n14 + 1) l3_14 v14 f14 w14 g14 = gsY_X11_newName_1_L14 p1 p2 n14 t67 v57 f58 w59 g60 := by
  subst h2 h3 h4 h7
  simp only [gsY_X11_newName_1_L14, if_neg h0, if_pos h1, if_pos h5, h6]
theorem gsY_X11_newName_1_q7 {p1 : Int32} {p2 : Int32} {n80 : Nat} {l3_80 : Int32} {v80 : Nat → Int32} {f80 : Nat → Nat → Int32} {w80 : Int64} {g80 : Nat → Int64} {t85 : Int32} {g87 : Nat → Int64} {v89 : Nat → Int32} {f90 : Nat → Nat → Int32} {w91 : Int64} {g92 : Nat → Int64} (h0 : (p2 ≤ l3_80)) (h1 : ((v80 1) ≤ 0)) (h2 : t85 = p1 + p2) (h3 : g87 = vp_updL g80 (t85).toNatClampNeg w80) (h4 : gsY_X11_token_1 v80 f80 w80 g87 = (v89, f90, w91, g92)) : gsY_X11_newName_1_L80 p1 p2 (n80 + 1) l3_80 v80 f80 w80 g80 = (v89, f90, w91, g92) := by
  subst h2 h3
  simp only [gsY_X11_newName_1_L80, if_pos h0, if_pos h1, h4]
theorem gsY_X11_newName_1_q8 {p1 : Int32} {p2 : Int32} {n80 : Nat} {l3_80 : Int32} {v80 : Nat → Int32} {f80 : Nat → Nat → Int32} {w80 : Int64} {g80 : Nat → Int64} (h0 : (p2 ≤ l3_80)) (h1 : ¬ ((v80 1) ≤ 0)) : gsY_X11_newName_1_L80 p1 p2 (n80 + 1) l3_80 v80 f80 w80 g80 = (v80, f80, w80, g80) := by
  simp only [gsY_X11_newName_1_L80, if_pos h0, if_neg h1]
theorem gsY_X11_newName_1_q9 {p1 : Int32} {p2 : Int32} {n80 : Nat} {l3_80 : Int32} {v80 : Nat → Int32} {f80 : Nat → Nat → Int32} {w80 : Int64} {g80 : Nat → Int64} {t102 : Int32} {g104 : Nat → Int64} {v106 : Nat → Int32} {f107 : Nat → Nat → Int32} {w108 : Int64} {g109 : Nat → Int64} (h0 : ¬ (p2 ≤ l3_80)) (h1 : ¬ ((v80 1) = 0)) (h2 : ((v80 1) ≤ 0)) (h3 : t102 = p1 + p2) (h4 : g104 = vp_updL g80 (t102).toNatClampNeg w80) (h5 : gsY_X11_token_1 v80 f80 w80 g104 = (v106, f107, w108, g109)) : gsY_X11_newName_1_L80 p1 p2 (n80 + 1) l3_80 v80 f80 w80 g80 = (v106, f107, w108, g109) := by
  subst h3 h4
  simp only [gsY_X11_newName_1_L80, if_neg h0, if_neg h1, if_pos h2, h5]
theorem gsY_X11_newName_1_q10 {p1 : Int32} {p2 : Int32} {n80 : Nat} {l3_80 : Int32} {v80 : Nat → Int32} {f80 : Nat → Nat → Int32} {w80 : Int64} {g80 : Nat → Int64} (h0 : ¬ (p2 ≤ l3_80)) (h1 : ¬ ((v80 1) = 0)) (h2 : ¬ ((v80 1) ≤ 0)) : gsY_X11_newName_1_L80 p1 p2 (n80 + 1) l3_80 v80 f80 w80 g80 = (v80, f80, w80, g80) := by
  simp only [gsY_X11_newName_1_L80, if_neg h0, if_neg h1, if_neg h2]
theorem gsY_X11_newName_1_q11 {p1 : Int32} {p2 : Int32} {n80 : Nat} {l3_80 : Int32} {v80 : Nat → Int32} {f80 : Nat → Nat → Int32} {w80 : Int64} {g80 : Nat → Int64} {t115 : Int32} {j117 : Int64} {t118 : Int32} {t120 : Int32} (h0 : ¬ (p2 ≤ l3_80)) (h1 : ((v80 1) = 0)) (h2 : t115 = p1 + l3_80) (h3 : j117 = g80 (t115).toNatClampNeg) (h4 : t118 = lg_cmp j117 w80) (h5 : ¬ (t118 = 0)) (h6 : t120 = l3_80 + 1) : gsY_X11_newName_1_L80 p1 p2 (n80 + 1) l3_80 v80 f80 w80 g80 = gsY_X11_newName_1_L80 p1 p2 n80 t120 v80 f80 w80 g80 := by
  subst h2 h3 h4 h6
  simp only [gsY_X11_newName_1_L80, if_neg h0, if_pos h1, if_neg h5]
theorem gsY_X11_newName_1_q12 {p1 : Int32} {p2 : Int32} {n80 : Nat} {l3_80 : Int32} {v80 : Nat → Int32} {f80 : Nat → Nat → Int32} {w80 : Int64} {g80 : Nat → Int64} {t115 : Int32} {j117 : Int64} {t118 : Int32} {v123 : Nat → Int32} {f124 : Nat → Nat → Int32} {w125 : Int64} {g126 : Nat → Int64} {t133 : Int32} (h0 : ¬ (p2 ≤ l3_80)) (h1 : ((v80 1) = 0)) (h2 : t115 = p1 + l3_80) (h3 : j117 = g80 (t115).toNatClampNeg) (h4 : t118 = lg_cmp j117 w80) (h5 : (t118 = 0)) (h6 : gsY_X11_wrong_1 3 v80 f80 w80 g80 = (v123, f124, w125, g126)) (h7 : t133 = l3_80 + 1) : gsY_X11_newName_1_L80 p1 p2 (n80 + 1) l3_80 v80 f80 w80 g80 = gsY_X11_newName_1_L80 p1 p2 n80 t133 v123 f124 w125 g126 := by
  subst h2 h3 h4 h7
  simp only [gsY_X11_newName_1_L80, if_neg h0, if_pos h1, if_pos h5, h6]
def gsY_X11_option_1 (j1 : Int64) (p2 : Int32) (v : Nat → Int32) (f : Nat → Nat → Int32) (w : Int64) (g : Nat → Int64) : Int32 × (Nat → Int32) × (Nat → Nat → Int32) × (Int64) × (Nat → Int64) :=
  if (v 1) = 0 then
    if gsY_X11_isWord_1 j1 v f w g = 1 then
      match gsY_X11_told_1 j1 p2 v f w g with
      | (r5, v7, f8, w9, g10) =>
        (r5, v7, f8, w9, g10)
    else
      (0, v, f, w, g)
  else
    (0, v, f, w, g)
theorem gsY_X11_option_1_q0 {j1 : Int64} {p2 : Int32} {v : Nat → Int32} {f : Nat → Nat → Int32} {w : Int64} {g : Nat → Int64} (h0 : ¬ ((v 1) = 0)) : gsY_X11_option_1 j1 p2 v f w g = (0, v, f, w, g) := by
  simp only [gsY_X11_option_1, if_neg h0]
theorem gsY_X11_option_1_q1 {j1 : Int64} {p2 : Int32} {v : Nat → Int32} {f : Nat → Nat → Int32} {w : Int64} {g : Nat → Int64} {r5 : Int32} {v7 : Nat → Int32} {f8 : Nat → Nat → Int32} {w9 : Int64} {g10 : Nat → Int64} (h0 : ((v 1) = 0)) (h1 : gsY_X11_isWord_1 j1 v f w g = 1) (h2 : gsY_X11_told_1 j1 p2 v f w g = (r5, v7, f8, w9, g10)) : gsY_X11_option_1 j1 p2 v f w g = (r5, v7, f8, w9, g10) := by
  simp only [gsY_X11_option_1, if_pos h0, h1, h2, ite11, ite01]
theorem gsY_X11_option_1_q2 {j1 : Int64} {p2 : Int32} {v : Nat → Int32} {f : Nat → Nat → Int32} {w : Int64} {g : Nat → Int64} (h0 : ((v 1) = 0)) (h1 : gsY_X11_isWord_1 j1 v f w g = 0) : gsY_X11_option_1 j1 p2 v f w g = (0, v, f, w, g) := by
  simp only [gsY_X11_option_1, if_pos h0, h1, ite11, ite01]
def gsY_X11_readCoat_1 (v : Nat → Int32) (f : Nat → Nat → Int32) (w : Int64) (g : Nat → Int64) : (Nat → Int32) × (Nat → Nat → Int32) × (Int64) × (Nat → Int64) :=
  match gsY_X11_newName_1 6 (v 18) v f w g with
  | (v2, f3, w4, g5) =>
    match gsY_X11_told_1 (1952541804 : Int64) 99 v2 f3 w4 g5 with
    | (r11, v13, f14, w15, g16) =>
      let f22 : Nat → Nat → Int32 := upd2 f14 12 (upd (f14 12) (v 18).toNatClampNeg r11)
      match gsY_X11_told_1 (2003395685 : Int64) 99 v13 f22 w15 g16 with
      | (r23, v25, f26, w27, g28) =>
        let f34 : Nat → Nat → Int32 := upd2 f26 13 (upd (f26 13) (v 18).toNatClampNeg r23)
        match gsY_X11_option_1 (1936023917 : Int64) 20 v25 f34 w27 g28 with
        | (r35, v37, f38, w39, g40) =>
          let f46 : Nat → Nat → Int32 := upd2 f38 14 (upd (f38 14) (v 18).toNatClampNeg r35)
          match gsY_X11_option_1 (2003792494 : Int64) 99 v37 f46 w39 g40 with
          | (r47, v49, f50, w51, g52) =>
            let f58 : Nat → Nat → Int32 := upd2 f50 15 (upd (f50 15) (v 18).toNatClampNeg r47)
            if (v49 1) = 0 then
              let t60 : Int32 := (v 18) + 1
              ((upd v49 18 t60), f58, w51, g52)
            else
              (v49, f58, w51, g52)
theorem gsY_X11_readCoat_1_q0 {v : Nat → Int32} {f : Nat → Nat → Int32} {w : Int64} {g : Nat → Int64} {v2 : Nat → Int32} {f3 : Nat → Nat → Int32} {w4 : Int64} {g5 : Nat → Int64} {r11 : Int32} {v13 : Nat → Int32} {f14 : Nat → Nat → Int32} {w15 : Int64} {g16 : Nat → Int64} {f22 : Nat → Nat → Int32} {r23 : Int32} {v25 : Nat → Int32} {f26 : Nat → Nat → Int32} {w27 : Int64} {g28 : Nat → Int64} {f34 : Nat → Nat → Int32} {r35 : Int32} {v37 : Nat → Int32} {f38 : Nat → Nat → Int32} {w39 : Int64} {g40 : Nat → Int64} {f46 : Nat → Nat → Int32} {r47 : Int32} {v49 : Nat → Int32} {f50 : Nat → Nat → Int32} {w51 : Int64} {g52 : Nat → Int64} {f58 : Nat → Nat → Int32} (h0 : gsY_X11_newName_1 6 (v 18) v f w g = (v2, f3, w4, g5)) (h1 : gsY_X11_told_1 (1952541804 : Int64) 99 v2 f3 w4 g5 = (r11, v13, f14, w15, g16)) (h2 : f22 = upd2 f14 12 (upd (f14 12) (v 18).toNatClampNeg r11)) (h3 : gsY_X11_told_1 (2003395685 : Int64) 99 v13 f22 w15 g16 = (r23, v25, f26, w27, g28)) (h4 : f34 = upd2 f26 13 (upd (f26 13) (v 18).toNatClampNeg r23)) (h5 : gsY_X11_option_1 (1936023917 : Int64) 20 v25 f34 w27 g28 = (r35, v37, f38, w39, g40)) (h6 : f46 = upd2 f38 14 (upd (f38 14) (v 18).toNatClampNeg r35)) (h7 : gsY_X11_option_1 (2003792494 : Int64) 99 v37 f46 w39 g40 = (r47, v49, f50, w51, g52)) (h8 : f58 = upd2 f50 15 (upd (f50 15) (v 18).toNatClampNeg r47)) (h9 : ¬ ((v49 1) = 0)) : gsY_X11_readCoat_1 v f w g = (v49, f58, w51, g52) := by
  subst h2 h4 h6 h8
  simp only [gsY_X11_readCoat_1, h0, h1, h3, h5, h7, if_neg h9]
theorem gsY_X11_readCoat_1_q1 {v : Nat → Int32} {f : Nat → Nat → Int32} {w : Int64} {g : Nat → Int64} {v2 : Nat → Int32} {f3 : Nat → Nat → Int32} {w4 : Int64} {g5 : Nat → Int64} {r11 : Int32} {v13 : Nat → Int32} {f14 : Nat → Nat → Int32} {w15 : Int64} {g16 : Nat → Int64} {f22 : Nat → Nat → Int32} {r23 : Int32} {v25 : Nat → Int32} {f26 : Nat → Nat → Int32} {w27 : Int64} {g28 : Nat → Int64} {f34 : Nat → Nat → Int32} {r35 : Int32} {v37 : Nat → Int32} {f38 : Nat → Nat → Int32} {w39 : Int64} {g40 : Nat → Int64} {f46 : Nat → Nat → Int32} {r47 : Int32} {v49 : Nat → Int32} {f50 : Nat → Nat → Int32} {w51 : Int64} {g52 : Nat → Int64} {f58 : Nat → Nat → Int32} {t60 : Int32} (h0 : gsY_X11_newName_1 6 (v 18) v f w g = (v2, f3, w4, g5)) (h1 : gsY_X11_told_1 (1952541804 : Int64) 99 v2 f3 w4 g5 = (r11, v13, f14, w15, g16)) (h2 : f22 = upd2 f14 12 (upd (f14 12) (v 18).toNatClampNeg r11)) (h3 : gsY_X11_told_1 (2003395685 : Int64) 99 v13 f22 w15 g16 = (r23, v25, f26, w27, g28)) (h4 : f34 = upd2 f26 13 (upd (f26 13) (v 18).toNatClampNeg r23)) (h5 : gsY_X11_option_1 (1936023917 : Int64) 20 v25 f34 w27 g28 = (r35, v37, f38, w39, g40)) (h6 : f46 = upd2 f38 14 (upd (f38 14) (v 18).toNatClampNeg r35)) (h7 : gsY_X11_option_1 (2003792494 : Int64) 99 v37 f46 w39 g40 = (r47, v49, f50, w51, g52)) (h8 : f58 = upd2 f50 15 (upd (f50 15) (v 18).toNatClampNeg r47)) (h9 : ((v49 1) = 0)) (h10 : t60 = (v 18) + 1) : gsY_X11_readCoat_1 v f w g = ((upd v49 18 t60), f58, w51, g52) := by
  subst h2 h4 h6 h8 h10
  simp only [gsY_X11_readCoat_1, h0, h1, h3, h5, h7, if_pos h9]
def gsY_X11_readMan_1 (v : Nat → Int32) (f : Nat → Nat → Int32) (w : Int64) (g : Nat → Int64) : (Nat → Int32) × (Nat → Nat → Int32) × (Int64) × (Nat → Int64) :=
  match gsY_X11_newName_1 0 (v 17) v f w g with
  | (v2, f3, w4, g5) =>
    match gsY_X11_told_1 (1952541804 : Int64) 99 v2 f3 w4 g5 with
    | (r11, v13, f14, w15, g16) =>
      let f22 : Nat → Nat → Int32 := upd2 f14 9 (upd (f14 9) (v 17).toNatClampNeg r11)
      match gsY_X11_told_1 (2003395685 : Int64) 99 v13 f22 w15 g16 with
      | (r23, v25, f26, w27, g28) =>
        let f34 : Nat → Nat → Int32 := upd2 f26 10 (upd (f26 10) (v 17).toNatClampNeg r23)
        match gsY_X11_option_1 (444301539187 : Int64) 9 v25 f34 w27 g28 with
        | (r35, v37, f38, w39, g40) =>
          let f46 : Nat → Nat → Int32 := upd2 f38 11 (upd (f38 11) (v 17).toNatClampNeg r35)
          if (v37 1) = 0 then
            let t48 : Int32 := (v 17) + 1
            ((upd v37 17 t48), f46, w39, g40)
          else
            (v37, f46, w39, g40)
theorem gsY_X11_readMan_1_q0 {v : Nat → Int32} {f : Nat → Nat → Int32} {w : Int64} {g : Nat → Int64} {v2 : Nat → Int32} {f3 : Nat → Nat → Int32} {w4 : Int64} {g5 : Nat → Int64} {r11 : Int32} {v13 : Nat → Int32} {f14 : Nat → Nat → Int32} {w15 : Int64} {g16 : Nat → Int64} {f22 : Nat → Nat → Int32} {r23 : Int32} {v25 : Nat → Int32} {f26 : Nat → Nat → Int32} {w27 : Int64} {g28 : Nat → Int64} {f34 : Nat → Nat → Int32} {r35 : Int32} {v37 : Nat → Int32} {f38 : Nat → Nat → Int32} {w39 : Int64} {g40 : Nat → Int64} {f46 : Nat → Nat → Int32} (h0 : gsY_X11_newName_1 0 (v 17) v f w g = (v2, f3, w4, g5)) (h1 : gsY_X11_told_1 (1952541804 : Int64) 99 v2 f3 w4 g5 = (r11, v13, f14, w15, g16)) (h2 : f22 = upd2 f14 9 (upd (f14 9) (v 17).toNatClampNeg r11)) (h3 : gsY_X11_told_1 (2003395685 : Int64) 99 v13 f22 w15 g16 = (r23, v25, f26, w27, g28)) (h4 : f34 = upd2 f26 10 (upd (f26 10) (v 17).toNatClampNeg r23)) (h5 : gsY_X11_option_1 (444301539187 : Int64) 9 v25 f34 w27 g28 = (r35, v37, f38, w39, g40)) (h6 : f46 = upd2 f38 11 (upd (f38 11) (v 17).toNatClampNeg r35)) (h7 : ¬ ((v37 1) = 0)) : gsY_X11_readMan_1 v f w g = (v37, f46, w39, g40) := by
  subst h2 h4 h6
  simp only [gsY_X11_readMan_1, h0, h1, h3, h5, if_neg h7]
theorem gsY_X11_readMan_1_q1 {v : Nat → Int32} {f : Nat → Nat → Int32} {w : Int64} {g : Nat → Int64} {v2 : Nat → Int32} {f3 : Nat → Nat → Int32} {w4 : Int64} {g5 : Nat → Int64} {r11 : Int32} {v13 : Nat → Int32} {f14 : Nat → Nat → Int32} {w15 : Int64} {g16 : Nat → Int64} {f22 : Nat → Nat → Int32} {r23 : Int32} {v25 : Nat → Int32} {f26 : Nat → Nat → Int32} {w27 : Int64} {g28 : Nat → Int64} {f34 : Nat → Nat → Int32} {r35 : Int32} {v37 : Nat → Int32} {f38 : Nat → Nat → Int32} {w39 : Int64} {g40 : Nat → Int64} {f46 : Nat → Nat → Int32} {t48 : Int32} (h0 : gsY_X11_newName_1 0 (v 17) v f w g = (v2, f3, w4, g5)) (h1 : gsY_X11_told_1 (1952541804 : Int64) 99 v2 f3 w4 g5 = (r11, v13, f14, w15, g16)) (h2 : f22 = upd2 f14 9 (upd (f14 9) (v 17).toNatClampNeg r11)) (h3 : gsY_X11_told_1 (2003395685 : Int64) 99 v13 f22 w15 g16 = (r23, v25, f26, w27, g28)) (h4 : f34 = upd2 f26 10 (upd (f26 10) (v 17).toNatClampNeg r23)) (h5 : gsY_X11_option_1 (444301539187 : Int64) 9 v25 f34 w27 g28 = (r35, v37, f38, w39, g40)) (h6 : f46 = upd2 f38 11 (upd (f38 11) (v 17).toNatClampNeg r35)) (h7 : ((v37 1) = 0)) (h8 : t48 = (v 17) + 1) : gsY_X11_readMan_1 v f w g = ((upd v37 17 t48), f46, w39, g40) := by
  subst h2 h4 h6 h8
  simp only [gsY_X11_readMan_1, h0, h1, h3, h5, if_pos h7]
def gsY_X11_readLine_1_J8 (v : Nat → Int32) (f : Nat → Nat → Int32) (w : Int64) (g : Nat → Int64) : (Nat → Int32) × (Nat → Nat → Int32) × (Int64) × (Nat → Int64) :=
  match gsY_X11_wrong_1 2 v f w g with
  | (v10, f11, w12, g13) =>
    if (v10 1) = 0 then
      if (v 5) = 59 then
        if (v10 1) = 0 then
          match gsY_X11_token_1 v10 f11 w12 g13 with
          | (v35, f36, w37, g38) =>
            (v35, f36, w37, g38)
        else
          (v10, f11, w12, g13)
      else
        match gsY_X11_wrong_1 2 v10 f11 w12 g13 with
        | (v45, f46, w47, g48) =>
          if (v45 1) = 0 then
            match gsY_X11_token_1 v45 f46 w47 g48 with
            | (v57, f58, w59, g60) =>
              (v57, f58, w59, g60)
          else
            (v45, f46, w47, g48)
    else
      if (v10 1) = 0 then
        match gsY_X11_token_1 v10 f11 w12 g13 with
        | (v23, f24, w25, g26) =>
          (v23, f24, w25, g26)
      else
        (v10, f11, w12, g13)
def gsY_X11_readLine_1_J7 (v : Nat → Int32) (f : Nat → Nat → Int32) (w : Int64) (g : Nat → Int64) : (Nat → Int32) × (Nat → Nat → Int32) × (Int64) × (Nat → Int64) :=
  if gsY_X11_isWord_1 (1685217655 : Int64) v f w g = 1 then
    if (v 34) = 0 then
      match gsY_X11_told_1 (1685217655 : Int64) 999 (upd v 34 1) f w g with
      | (r70, v72, f73, w74, g75) =>
        if (v72 1) = 0 then
          if (v72 5) = 59 then
            if (v72 1) = 0 then
              match gsY_X11_token_1 (upd v72 23 r70) f73 w74 g75 with
              | (v96, f97, w98, g99) =>
                (v96, f97, w98, g99)
            else
              ((upd v72 23 r70), f73, w74, g75)
          else
            match gsY_X11_wrong_1 2 (upd v72 23 r70) f73 w74 g75 with
            | (v106, f107, w108, g109) =>
              if (v106 1) = 0 then
                match gsY_X11_token_1 v106 f107 w108 g109 with
                | (v118, f119, w120, g121) =>
                  (v118, f119, w120, g121)
              else
                (v106, f107, w108, g109)
        else
          if (v72 1) = 0 then
            match gsY_X11_token_1 (upd v72 23 r70) f73 w74 g75 with
            | (v84, f85, w86, g87) =>
              (v84, f85, w86, g87)
          else
            ((upd v72 23 r70), f73, w74, g75)
    else
      gsY_X11_readLine_1_J8 v f w g
  else
    gsY_X11_readLine_1_J8 v f w g
def gsY_X11_readLine_1_J6 (v : Nat → Int32) (f : Nat → Nat → Int32) (w : Int64) (g : Nat → Int64) : (Nat → Int32) × (Nat → Nat → Int32) × (Int64) × (Nat → Int64) :=
  if gsY_X11_isWord_1 (1918986606 : Int64) v f w g = 1 then
    if (v 33) = 0 then
      match gsY_X11_told_1 (1918986606 : Int64) 100 (upd v 33 1) f w g with
      | (r131, v133, f134, w135, g136) =>
        if (v133 1) = 0 then
          if (v133 5) = 59 then
            if (v133 1) = 0 then
              match gsY_X11_token_1 (upd v133 22 r131) f134 w135 g136 with
              | (v157, f158, w159, g160) =>
                (v157, f158, w159, g160)
            else
              ((upd v133 22 r131), f134, w135, g136)
          else
            match gsY_X11_wrong_1 2 (upd v133 22 r131) f134 w135 g136 with
            | (v167, f168, w169, g170) =>
              if (v167 1) = 0 then
                match gsY_X11_token_1 v167 f168 w169 g170 with
                | (v179, f180, w181, g182) =>
                  (v179, f180, w181, g182)
              else
                (v167, f168, w169, g170)
        else
          if (v133 1) = 0 then
            match gsY_X11_token_1 (upd v133 22 r131) f134 w135 g136 with
            | (v145, f146, w147, g148) =>
              (v145, f146, w147, g148)
          else
            ((upd v133 22 r131), f134, w135, g136)
    else
      gsY_X11_readLine_1_J7 v f w g
  else
    gsY_X11_readLine_1_J7 v f w g
def gsY_X11_readLine_1_J5 (v : Nat → Int32) (f : Nat → Nat → Int32) (w : Int64) (g : Nat → Int64) : (Nat → Int32) × (Nat → Nat → Int32) × (Int64) × (Nat → Int64) :=
  if gsY_X11_isWord_1 (1818848101 : Int64) v f w g = 1 then
    if (v 32) = 0 then
      match gsY_X11_told_1 (1818848101 : Int64) 99 (upd v 32 1) f w g with
      | (r192, v194, f195, w196, g197) =>
        if (v194 1) = 0 then
          if (v194 5) = 59 then
            if (v194 1) = 0 then
              match gsY_X11_token_1 (upd v194 21 r192) f195 w196 g197 with
              | (v218, f219, w220, g221) =>
                (v218, f219, w220, g221)
            else
              ((upd v194 21 r192), f195, w196, g197)
          else
            match gsY_X11_wrong_1 2 (upd v194 21 r192) f195 w196 g197 with
            | (v228, f229, w230, g231) =>
              if (v228 1) = 0 then
                match gsY_X11_token_1 v228 f229 w230 g231 with
                | (v240, f241, w242, g243) =>
                  (v240, f241, w242, g243)
              else
                (v228, f229, w230, g231)
        else
          if (v194 1) = 0 then
            match gsY_X11_token_1 (upd v194 21 r192) f195 w196 g197 with
            | (v206, f207, w208, g209) =>
              (v206, f207, w208, g209)
          else
            ((upd v194 21 r192), f195, w196, g197)
    else
      gsY_X11_readLine_1_J6 v f w g
  else
    gsY_X11_readLine_1_J6 v f w g
def gsY_X11_readLine_1_J4 (v : Nat → Int32) (f : Nat → Nat → Int32) (w : Int64) (g : Nat → Int64) : (Nat → Int32) × (Nat → Nat → Int32) × (Int64) × (Nat → Int64) :=
  if gsY_X11_isWord_1 (1651469428 : Int64) v f w g = 1 then
    if (v 31) = 0 then
      match gsY_X11_told_1 (1651469428 : Int64) 999 (upd v 31 1) f w g with
      | (r253, v255, f256, w257, g258) =>
        if (v255 1) = 0 then
          if (v255 5) = 59 then
            if (v255 1) = 0 then
              match gsY_X11_token_1 (upd v255 20 r253) f256 w257 g258 with
              | (v279, f280, w281, g282) =>
                (v279, f280, w281, g282)
            else
              ((upd v255 20 r253), f256, w257, g258)
          else
            match gsY_X11_wrong_1 2 (upd v255 20 r253) f256 w257 g258 with
            | (v289, f290, w291, g292) =>
              if (v289 1) = 0 then
                match gsY_X11_token_1 v289 f290 w291 g292 with
                | (v301, f302, w303, g304) =>
                  (v301, f302, w303, g304)
              else
                (v289, f290, w291, g292)
        else
          if (v255 1) = 0 then
            match gsY_X11_token_1 (upd v255 20 r253) f256 w257 g258 with
            | (v267, f268, w269, g270) =>
              (v267, f268, w269, g270)
          else
            ((upd v255 20 r253), f256, w257, g258)
    else
      gsY_X11_readLine_1_J5 v f w g
  else
    gsY_X11_readLine_1_J5 v f w g
def gsY_X11_readLine_1_J3 (v : Nat → Int32) (f : Nat → Nat → Int32) (w : Int64) (g : Nat → Int64) : (Nat → Int32) × (Nat → Nat → Int32) × (Int64) × (Nat → Int64) :=
  if gsY_X11_isWord_1 (1700885369 : Int64) v f w g = 1 then
    if (v 30) = 0 then
      match gsY_X11_told_1 (1700885369 : Int64) 999 (upd v 30 1) f w g with
      | (r314, v316, f317, w318, g319) =>
        if (v316 1) = 0 then
          if (v316 5) = 59 then
            if (v316 1) = 0 then
              match gsY_X11_token_1 (upd v316 19 r314) f317 w318 g319 with
              | (v340, f341, w342, g343) =>
                (v340, f341, w342, g343)
            else
              ((upd v316 19 r314), f317, w318, g319)
          else
            match gsY_X11_wrong_1 2 (upd v316 19 r314) f317 w318 g319 with
            | (v350, f351, w352, g353) =>
              if (v350 1) = 0 then
                match gsY_X11_token_1 v350 f351 w352 g353 with
                | (v362, f363, w364, g365) =>
                  (v362, f363, w364, g365)
              else
                (v350, f351, w352, g353)
        else
          if (v316 1) = 0 then
            match gsY_X11_token_1 (upd v316 19 r314) f317 w318 g319 with
            | (v328, f329, w330, g331) =>
              (v328, f329, w330, g331)
          else
            ((upd v316 19 r314), f317, w318, g319)
    else
      gsY_X11_readLine_1_J4 v f w g
  else
    gsY_X11_readLine_1_J4 v f w g
def gsY_X11_readLine_1_J2 (v : Nat → Int32) (f : Nat → Nat → Int32) (w : Int64) (g : Nat → Int64) : (Nat → Int32) × (Nat → Nat → Int32) × (Int64) × (Nat → Int64) :=
  if gsY_X11_isWord_1 (6909036 : Int64) v f w g = 1 then
    if (v 15) = 0 then
      match gsY_X11_formula_1 v f w g with
      | (v376, f377, w378, g379) =>
        if (v376 1) = 0 then
          if (v376 5) = 59 then
            if (v376 1) = 0 then
              match gsY_X11_token_1 v376 f377 w378 g379 with
              | (v397, f398, w399, g400) =>
                (v397, f398, w399, g400)
            else
              (v376, f377, w378, g379)
          else
            match gsY_X11_wrong_1 2 v376 f377 w378 g379 with
            | (v407, f408, w409, g410) =>
              if (v407 1) = 0 then
                match gsY_X11_token_1 v407 f408 w409 g410 with
                | (v419, f420, w421, g422) =>
                  (v419, f420, w421, g422)
              else
                (v407, f408, w409, g410)
        else
          if (v376 1) = 0 then
            match gsY_X11_token_1 v376 f377 w378 g379 with
            | (v385, f386, w387, g388) =>
              (v385, f386, w387, g388)
          else
            (v376, f377, w378, g379)
    else
      gsY_X11_readLine_1_J3 v f w g
  else
    gsY_X11_readLine_1_J3 v f w g
def gsY_X11_readLine_1_J1 (v : Nat → Int32) (f : Nat → Nat → Int32) (w : Int64) (g : Nat → Int64) : (Nat → Int32) × (Nat → Nat → Int32) × (Int64) × (Nat → Int64) :=
  if gsY_X11_isWord_1 (1668243828 : Int64) v f w g = 1 then
    if 6 ≤ (v 18) then
      gsY_X11_readLine_1_J2 v f w g
    else
      match gsY_X11_readCoat_1 v f w g with
      | (v433, f434, w435, g436) =>
        if (v433 1) = 0 then
          if (v433 5) = 59 then
            if (v433 1) = 0 then
              match gsY_X11_token_1 v433 f434 w435 g436 with
              | (v457, f458, w459, g460) =>
                (v457, f458, w459, g460)
            else
              (v433, f434, w435, g436)
          else
            match gsY_X11_wrong_1 2 v433 f434 w435 g436 with
            | (v467, f468, w469, g470) =>
              if (v467 1) = 0 then
                match gsY_X11_token_1 v467 f468 w469 g470 with
                | (v479, f480, w481, g482) =>
                  (v479, f480, w481, g482)
              else
                (v467, f468, w469, g470)
        else
          if (v433 1) = 0 then
            match gsY_X11_token_1 v433 f434 w435 g436 with
            | (v445, f446, w447, g448) =>
              (v445, f446, w447, g448)
          else
            (v433, f434, w435, g436)
  else
    gsY_X11_readLine_1_J2 v f w g
def gsY_X11_readLine_1 (v : Nat → Int32) (f : Nat → Nat → Int32) (w : Int64) (g : Nat → Int64) : (Nat → Int32) × (Nat → Nat → Int32) × (Int64) × (Nat → Int64) :=
  if gsY_X11_isWord_1 (7168366 : Int64) v f w g = 1 then
    if 6 ≤ (v 17) then
      gsY_X11_readLine_1_J1 v f w g
    else
      match gsY_X11_readMan_1 v f w g with
      | (v493, f494, w495, g496) =>
        if (v493 1) = 0 then
          if (v493 5) = 59 then
            if (v493 1) = 0 then
              match gsY_X11_token_1 v493 f494 w495 g496 with
              | (v517, f518, w519, g520) =>
                (v517, f518, w519, g520)
            else
              (v493, f494, w495, g496)
          else
            match gsY_X11_wrong_1 2 v493 f494 w495 g496 with
            | (v527, f528, w529, g530) =>
              if (v527 1) = 0 then
                match gsY_X11_token_1 v527 f528 w529 g530 with
                | (v539, f540, w541, g542) =>
                  (v539, f540, w541, g542)
              else
                (v527, f528, w529, g530)
        else
          if (v493 1) = 0 then
            match gsY_X11_token_1 v493 f494 w495 g496 with
            | (v505, f506, w507, g508) =>
              (v505, f506, w507, g508)
          else
            (v493, f494, w495, g496)
  else
    gsY_X11_readLine_1_J1 v f w g
theorem gsY_X11_readLine_1_q62 {v : Nat → Int32} {f : Nat → Nat → Int32} {w : Int64} {g : Nat → Int64} (h0 : gsY_X11_isWord_1 (7168366 : Int64) v f w g = 1) (h1 : (6 ≤ (v 17))) : gsY_X11_readLine_1 v f w g = gsY_X11_readLine_1_J1 v f w g := by
  simp only [gsY_X11_readLine_1, h0, if_pos h1, ite11, ite01]
theorem gsY_X11_readLine_1_q63 {v : Nat → Int32} {f : Nat → Nat → Int32} {w : Int64} {g : Nat → Int64} {v493 : Nat → Int32} {f494 : Nat → Nat → Int32} {w495 : Int64} {g496 : Nat → Int64} (h0 : gsY_X11_isWord_1 (7168366 : Int64) v f w g = 1) (h1 : ¬ (6 ≤ (v 17))) (h2 : gsY_X11_readMan_1 v f w g = (v493, f494, w495, g496)) (h3 : ¬ ((v493 1) = 0)) (h4 : ¬ ((v493 1) = 0)) : gsY_X11_readLine_1 v f w g = (v493, f494, w495, g496) := by
  simp only [gsY_X11_readLine_1, h0, if_neg h1, h2, if_neg h3, if_neg h4, ite11, ite01]
theorem gsY_X11_readLine_1_q64 {v : Nat → Int32} {f : Nat → Nat → Int32} {w : Int64} {g : Nat → Int64} {v493 : Nat → Int32} {f494 : Nat → Nat → Int32} {w495 : Int64} {g496 : Nat → Int64} {v505 : Nat → Int32} {f506 : Nat → Nat → Int32} {w507 : Int64} {g508 : Nat → Int64} (h0 : gsY_X11_isWord_1 (7168366 : Int64) v f w g = 1) (h1 : ¬ (6 ≤ (v 17))) (h2 : gsY_X11_readMan_1 v f w g = (v493, f494, w495, g496)) (h3 : ¬ ((v493 1) = 0)) (h4 : ((v493 1) = 0)) (h5 : gsY_X11_token_1 v493 f494 w495 g496 = (v505, f506, w507, g508)) : gsY_X11_readLine_1 v f w g = (v505, f506, w507, g508) := by
  exact absurd h4 h3
theorem gsY_X11_readLine_1_q65 {v : Nat → Int32} {f : Nat → Nat → Int32} {w : Int64} {g : Nat → Int64} {v493 : Nat → Int32} {f494 : Nat → Nat → Int32} {w495 : Int64} {g496 : Nat → Int64} (h0 : gsY_X11_isWord_1 (7168366 : Int64) v f w g = 1) (h1 : ¬ (6 ≤ (v 17))) (h2 : gsY_X11_readMan_1 v f w g = (v493, f494, w495, g496)) (h3 : ((v493 1) = 0)) (h4 : ((v493 5) = 59)) (h5 : ¬ ((v493 1) = 0)) : gsY_X11_readLine_1 v f w g = (v493, f494, w495, g496) := by
  exact absurd h3 h5
theorem gsY_X11_readLine_1_q66 {v : Nat → Int32} {f : Nat → Nat → Int32} {w : Int64} {g : Nat → Int64} {v493 : Nat → Int32} {f494 : Nat → Nat → Int32} {w495 : Int64} {g496 : Nat → Int64} {v517 : Nat → Int32} {f518 : Nat → Nat → Int32} {w519 : Int64} {g520 : Nat → Int64} (h0 : gsY_X11_isWord_1 (7168366 : Int64) v f w g = 1) (h1 : ¬ (6 ≤ (v 17))) (h2 : gsY_X11_readMan_1 v f w g = (v493, f494, w495, g496)) (h3 : ((v493 1) = 0)) (h4 : ((v493 5) = 59)) (h5 : ((v493 1) = 0)) (h6 : gsY_X11_token_1 v493 f494 w495 g496 = (v517, f518, w519, g520)) : gsY_X11_readLine_1 v f w g = (v517, f518, w519, g520) := by
  simp only [gsY_X11_readLine_1, h0, if_neg h1, h2, if_pos h3, if_pos h4, if_pos h5, h6, ite11, ite01]
theorem gsY_X11_readLine_1_q67 {v : Nat → Int32} {f : Nat → Nat → Int32} {w : Int64} {g : Nat → Int64} {v493 : Nat → Int32} {f494 : Nat → Nat → Int32} {w495 : Int64} {g496 : Nat → Int64} {v527 : Nat → Int32} {f528 : Nat → Nat → Int32} {w529 : Int64} {g530 : Nat → Int64} (h0 : gsY_X11_isWord_1 (7168366 : Int64) v f w g = 1) (h1 : ¬ (6 ≤ (v 17))) (h2 : gsY_X11_readMan_1 v f w g = (v493, f494, w495, g496)) (h3 : ((v493 1) = 0)) (h4 : ¬ ((v493 5) = 59)) (h5 : gsY_X11_wrong_1 2 v493 f494 w495 g496 = (v527, f528, w529, g530)) (h6 : ¬ ((v527 1) = 0)) : gsY_X11_readLine_1 v f w g = (v527, f528, w529, g530) := by
  simp only [gsY_X11_readLine_1, h0, if_neg h1, h2, if_pos h3, if_neg h4, h5, if_neg h6, ite11, ite01]
theorem gsY_X11_readLine_1_q68 {v : Nat → Int32} {f : Nat → Nat → Int32} {w : Int64} {g : Nat → Int64} {v493 : Nat → Int32} {f494 : Nat → Nat → Int32} {w495 : Int64} {g496 : Nat → Int64} {v527 : Nat → Int32} {f528 : Nat → Nat → Int32} {w529 : Int64} {g530 : Nat → Int64} {v539 : Nat → Int32} {f540 : Nat → Nat → Int32} {w541 : Int64} {g542 : Nat → Int64} (h0 : gsY_X11_isWord_1 (7168366 : Int64) v f w g = 1) (h1 : ¬ (6 ≤ (v 17))) (h2 : gsY_X11_readMan_1 v f w g = (v493, f494, w495, g496)) (h3 : ((v493 1) = 0)) (h4 : ¬ ((v493 5) = 59)) (h5 : gsY_X11_wrong_1 2 v493 f494 w495 g496 = (v527, f528, w529, g530)) (h6 : ((v527 1) = 0)) (h7 : gsY_X11_token_1 v527 f528 w529 g530 = (v539, f540, w541, g542)) : gsY_X11_readLine_1 v f w g = (v539, f540, w541, g542) := by
  simp only [gsY_X11_readLine_1, h0, if_neg h1, h2, if_pos h3, if_neg h4, h5, if_pos h6, h7, ite11, ite01]
theorem gsY_X11_readLine_1_q69 {v : Nat → Int32} {f : Nat → Nat → Int32} {w : Int64} {g : Nat → Int64} (h0 : gsY_X11_isWord_1 (7168366 : Int64) v f w g = 0) : gsY_X11_readLine_1 v f w g = gsY_X11_readLine_1_J1 v f w g := by
  simp only [gsY_X11_readLine_1, h0, ite11, ite01]
theorem gsY_X11_readLine_1_q54 {v : Nat → Int32} {f : Nat → Nat → Int32} {w : Int64} {g : Nat → Int64} (h0 : gsY_X11_isWord_1 (1668243828 : Int64) v f w g = 1) (h1 : (6 ≤ (v 18))) : gsY_X11_readLine_1_J1 v f w g = gsY_X11_readLine_1_J2 v f w g := by
  simp only [gsY_X11_readLine_1_J1, h0, if_pos h1, ite11, ite01]
theorem gsY_X11_readLine_1_q55 {v : Nat → Int32} {f : Nat → Nat → Int32} {w : Int64} {g : Nat → Int64} {v433 : Nat → Int32} {f434 : Nat → Nat → Int32} {w435 : Int64} {g436 : Nat → Int64} (h0 : gsY_X11_isWord_1 (1668243828 : Int64) v f w g = 1) (h1 : ¬ (6 ≤ (v 18))) (h2 : gsY_X11_readCoat_1 v f w g = (v433, f434, w435, g436)) (h3 : ¬ ((v433 1) = 0)) (h4 : ¬ ((v433 1) = 0)) : gsY_X11_readLine_1_J1 v f w g = (v433, f434, w435, g436) := by
  simp only [gsY_X11_readLine_1_J1, h0, if_neg h1, h2, if_neg h3, if_neg h4, ite11, ite01]
theorem gsY_X11_readLine_1_q56 {v : Nat → Int32} {f : Nat → Nat → Int32} {w : Int64} {g : Nat → Int64} {v433 : Nat → Int32} {f434 : Nat → Nat → Int32} {w435 : Int64} {g436 : Nat → Int64} {v445 : Nat → Int32} {f446 : Nat → Nat → Int32} {w447 : Int64} {g448 : Nat → Int64} (h0 : gsY_X11_isWord_1 (1668243828 : Int64) v f w g = 1) (h1 : ¬ (6 ≤ (v 18))) (h2 : gsY_X11_readCoat_1 v f w g = (v433, f434, w435, g436)) (h3 : ¬ ((v433 1) = 0)) (h4 : ((v433 1) = 0)) (h5 : gsY_X11_token_1 v433 f434 w435 g436 = (v445, f446, w447, g448)) : gsY_X11_readLine_1_J1 v f w g = (v445, f446, w447, g448) := by
  exact absurd h4 h3
theorem gsY_X11_readLine_1_q57 {v : Nat → Int32} {f : Nat → Nat → Int32} {w : Int64} {g : Nat → Int64} {v433 : Nat → Int32} {f434 : Nat → Nat → Int32} {w435 : Int64} {g436 : Nat → Int64} (h0 : gsY_X11_isWord_1 (1668243828 : Int64) v f w g = 1) (h1 : ¬ (6 ≤ (v 18))) (h2 : gsY_X11_readCoat_1 v f w g = (v433, f434, w435, g436)) (h3 : ((v433 1) = 0)) (h4 : ((v433 5) = 59)) (h5 : ¬ ((v433 1) = 0)) : gsY_X11_readLine_1_J1 v f w g = (v433, f434, w435, g436) := by
  exact absurd h3 h5
theorem gsY_X11_readLine_1_q58 {v : Nat → Int32} {f : Nat → Nat → Int32} {w : Int64} {g : Nat → Int64} {v433 : Nat → Int32} {f434 : Nat → Nat → Int32} {w435 : Int64} {g436 : Nat → Int64} {v457 : Nat → Int32} {f458 : Nat → Nat → Int32} {w459 : Int64} {g460 : Nat → Int64} (h0 : gsY_X11_isWord_1 (1668243828 : Int64) v f w g = 1) (h1 : ¬ (6 ≤ (v 18))) (h2 : gsY_X11_readCoat_1 v f w g = (v433, f434, w435, g436)) (h3 : ((v433 1) = 0)) (h4 : ((v433 5) = 59)) (h5 : ((v433 1) = 0)) (h6 : gsY_X11_token_1 v433 f434 w435 g436 = (v457, f458, w459, g460)) : gsY_X11_readLine_1_J1 v f w g = (v457, f458, w459, g460) := by
  simp only [gsY_X11_readLine_1_J1, h0, if_neg h1, h2, if_pos h3, if_pos h4, if_pos h5, h6, ite11, ite01]
theorem gsY_X11_readLine_1_q59 {v : Nat → Int32} {f : Nat → Nat → Int32} {w : Int64} {g : Nat → Int64} {v433 : Nat → Int32} {f434 : Nat → Nat → Int32} {w435 : Int64} {g436 : Nat → Int64} {v467 : Nat → Int32} {f468 : Nat → Nat → Int32} {w469 : Int64} {g470 : Nat → Int64} (h0 : gsY_X11_isWord_1 (1668243828 : Int64) v f w g = 1) (h1 : ¬ (6 ≤ (v 18))) (h2 : gsY_X11_readCoat_1 v f w g = (v433, f434, w435, g436)) (h3 : ((v433 1) = 0)) (h4 : ¬ ((v433 5) = 59)) (h5 : gsY_X11_wrong_1 2 v433 f434 w435 g436 = (v467, f468, w469, g470)) (h6 : ¬ ((v467 1) = 0)) : gsY_X11_readLine_1_J1 v f w g = (v467, f468, w469, g470) := by
  simp only [gsY_X11_readLine_1_J1, h0, if_neg h1, h2, if_pos h3, if_neg h4, h5, if_neg h6, ite11, ite01]
theorem gsY_X11_readLine_1_q60 {v : Nat → Int32} {f : Nat → Nat → Int32} {w : Int64} {g : Nat → Int64} {v433 : Nat → Int32} {f434 : Nat → Nat → Int32} {w435 : Int64} {g436 : Nat → Int64} {v467 : Nat → Int32} {f468 : Nat → Nat → Int32} {w469 : Int64} {g470 : Nat → Int64} {v479 : Nat → Int32} {f480 : Nat → Nat → Int32} {w481 : Int64} {g482 : Nat → Int64} (h0 : gsY_X11_isWord_1 (1668243828 : Int64) v f w g = 1) (h1 : ¬ (6 ≤ (v 18))) (h2 : gsY_X11_readCoat_1 v f w g = (v433, f434, w435, g436)) (h3 : ((v433 1) = 0)) (h4 : ¬ ((v433 5) = 59)) (h5 : gsY_X11_wrong_1 2 v433 f434 w435 g436 = (v467, f468, w469, g470)) (h6 : ((v467 1) = 0)) (h7 : gsY_X11_token_1 v467 f468 w469 g470 = (v479, f480, w481, g482)) : gsY_X11_readLine_1_J1 v f w g = (v479, f480, w481, g482) := by
  simp only [gsY_X11_readLine_1_J1, h0, if_neg h1, h2, if_pos h3, if_neg h4, h5, if_pos h6, h7, ite11, ite01]
theorem gsY_X11_readLine_1_q61 {v : Nat → Int32} {f : Nat → Nat → Int32} {w : Int64} {g : Nat → Int64} (h0 : gsY_X11_isWord_1 (1668243828 : Int64) v f w g = 0) : gsY_X11_readLine_1_J1 v f w g = gsY_X11_readLine_1_J2 v f w g := by
  simp only [gsY_X11_readLine_1_J1, h0, ite11, ite01]
theorem gsY_X11_readLine_1_q46 {v : Nat → Int32} {f : Nat → Nat → Int32} {w : Int64} {g : Nat → Int64} (h0 : gsY_X11_isWord_1 (6909036 : Int64) v f w g = 1) (h1 : ¬ ((v 15) = 0)) : gsY_X11_readLine_1_J2 v f w g = gsY_X11_readLine_1_J3 v f w g := by
  simp only [gsY_X11_readLine_1_J2, h0, if_neg h1, ite11, ite01]
theorem gsY_X11_readLine_1_q47 {v : Nat → Int32} {f : Nat → Nat → Int32} {w : Int64} {g : Nat → Int64} {v376 : Nat → Int32} {f377 : Nat → Nat → Int32} {w378 : Int64} {g379 : Nat → Int64} (h0 : gsY_X11_isWord_1 (6909036 : Int64) v f w g = 1) (h1 : ((v 15) = 0)) (h2 : gsY_X11_formula_1 v f w g = (v376, f377, w378, g379)) (h3 : ¬ ((v376 1) = 0)) (h4 : ¬ ((v376 1) = 0)) : gsY_X11_readLine_1_J2 v f w g = (v376, f377, w378, g379) := by
  simp only [gsY_X11_readLine_1_J2, h0, if_pos h1, h2, if_neg h3, if_neg h4, ite11, ite01]
theorem gsY_X11_readLine_1_q48 {v : Nat → Int32} {f : Nat → Nat → Int32} {w : Int64} {g : Nat → Int64} {v376 : Nat → Int32} {f377 : Nat → Nat → Int32} {w378 : Int64} {g379 : Nat → Int64} {v385 : Nat → Int32} {f386 : Nat → Nat → Int32} {w387 : Int64} {g388 : Nat → Int64} (h0 : gsY_X11_isWord_1 (6909036 : Int64) v f w g = 1) (h1 : ((v 15) = 0)) (h2 : gsY_X11_formula_1 v f w g = (v376, f377, w378, g379)) (h3 : ¬ ((v376 1) = 0)) (h4 : ((v376 1) = 0)) (h5 : gsY_X11_token_1 v376 f377 w378 g379 = (v385, f386, w387, g388)) : gsY_X11_readLine_1_J2 v f w g = (v385, f386, w387, g388) := by
  exact absurd h4 h3
theorem gsY_X11_readLine_1_q49 {v : Nat → Int32} {f : Nat → Nat → Int32} {w : Int64} {g : Nat → Int64} {v376 : Nat → Int32} {f377 : Nat → Nat → Int32} {w378 : Int64} {g379 : Nat → Int64} (h0 : gsY_X11_isWord_1 (6909036 : Int64) v f w g = 1) (h1 : ((v 15) = 0)) (h2 : gsY_X11_formula_1 v f w g = (v376, f377, w378, g379)) (h3 : ((v376 1) = 0)) (h4 : ((v376 5) = 59)) (h5 : ¬ ((v376 1) = 0)) : gsY_X11_readLine_1_J2 v f w g = (v376, f377, w378, g379) := by
  exact absurd h3 h5
theorem gsY_X11_readLine_1_q50 {v : Nat → Int32} {f : Nat → Nat → Int32} {w : Int64} {g : Nat → Int64} {v376 : Nat → Int32} {f377 : Nat → Nat → Int32} {w378 : Int64} {g379 : Nat → Int64} {v397 : Nat → Int32} {f398 : Nat → Nat → Int32} {w399 : Int64} {g400 : Nat → Int64} (h0 : gsY_X11_isWord_1 (6909036 : Int64) v f w g = 1) (h1 : ((v 15) = 0)) (h2 : gsY_X11_formula_1 v f w g = (v376, f377, w378, g379)) (h3 : ((v376 1) = 0)) (h4 : ((v376 5) = 59)) (h5 : ((v376 1) = 0)) (h6 : gsY_X11_token_1 v376 f377 w378 g379 = (v397, f398, w399, g400)) : gsY_X11_readLine_1_J2 v f w g = (v397, f398, w399, g400) := by
  simp only [gsY_X11_readLine_1_J2, h0, if_pos h1, h2, if_pos h3, if_pos h4, if_pos h5, h6, ite11, ite01]
theorem gsY_X11_readLine_1_q51 {v : Nat → Int32} {f : Nat → Nat → Int32} {w : Int64} {g : Nat → Int64} {v376 : Nat → Int32} {f377 : Nat → Nat → Int32} {w378 : Int64} {g379 : Nat → Int64} {v407 : Nat → Int32} {f408 : Nat → Nat → Int32} {w409 : Int64} {g410 : Nat → Int64} (h0 : gsY_X11_isWord_1 (6909036 : Int64) v f w g = 1) (h1 : ((v 15) = 0)) (h2 : gsY_X11_formula_1 v f w g = (v376, f377, w378, g379)) (h3 : ((v376 1) = 0)) (h4 : ¬ ((v376 5) = 59)) (h5 : gsY_X11_wrong_1 2 v376 f377 w378 g379 = (v407, f408, w409, g410)) (h6 : ¬ ((v407 1) = 0)) : gsY_X11_readLine_1_J2 v f w g = (v407, f408, w409, g410) := by
  simp only [gsY_X11_readLine_1_J2, h0, if_pos h1, h2, if_pos h3, if_neg h4, h5, if_neg h6, ite11, ite01]
theorem gsY_X11_readLine_1_q52 {v : Nat → Int32} {f : Nat → Nat → Int32} {w : Int64} {g : Nat → Int64} {v376 : Nat → Int32} {f377 : Nat → Nat → Int32} {w378 : Int64} {g379 : Nat → Int64} {v407 : Nat → Int32} {f408 : Nat → Nat → Int32} {w409 : Int64} {g410 : Nat → Int64} {v419 : Nat → Int32} {f420 : Nat → Nat → Int32} {w421 : Int64} {g422 : Nat → Int64} (h0 : gsY_X11_isWord_1 (6909036 : Int64) v f w g = 1) (h1 : ((v 15) = 0)) (h2 : gsY_X11_formula_1 v f w g = (v376, f377, w378, g379)) (h3 : ((v376 1) = 0)) (h4 : ¬ ((v376 5) = 59)) (h5 : gsY_X11_wrong_1 2 v376 f377 w378 g379 = (v407, f408, w409, g410)) (h6 : ((v407 1) = 0)) (h7 : gsY_X11_token_1 v407 f408 w409 g410 = (v419, f420, w421, g422)) : gsY_X11_readLine_1_J2 v f w g = (v419, f420, w421, g422) := by
  simp only [gsY_X11_readLine_1_J2, h0, if_pos h1, h2, if_pos h3, if_neg h4, h5, if_pos h6, h7, ite11, ite01]
theorem gsY_X11_readLine_1_q53 {v : Nat → Int32} {f : Nat → Nat → Int32} {w : Int64} {g : Nat → Int64} (h0 : gsY_X11_isWord_1 (6909036 : Int64) v f w g = 0) : gsY_X11_readLine_1_J2 v f w g = gsY_X11_readLine_1_J3 v f w g := by
  simp only [gsY_X11_readLine_1_J2, h0, ite11, ite01]
theorem gsY_X11_readLine_1_q38 {v : Nat → Int32} {f : Nat → Nat → Int32} {w : Int64} {g : Nat → Int64} (h0 : gsY_X11_isWord_1 (1700885369 : Int64) v f w g = 1) (h1 : ¬ ((v 30) = 0)) : gsY_X11_readLine_1_J3 v f w g = gsY_X11_readLine_1_J4 v f w g := by
  simp only [gsY_X11_readLine_1_J3, h0, if_neg h1, ite11, ite01]
theorem gsY_X11_readLine_1_q39 {v : Nat → Int32} {f : Nat → Nat → Int32} {w : Int64} {g : Nat → Int64} {r314 : Int32} {v316 : Nat → Int32} {f317 : Nat → Nat → Int32} {w318 : Int64} {g319 : Nat → Int64} (h0 : gsY_X11_isWord_1 (1700885369 : Int64) v f w g = 1) (h1 : ((v 30) = 0)) (h2 : gsY_X11_told_1 (1700885369 : Int64) 999 (upd v 30 1) f w g = (r314, v316, f317, w318, g319)) (h3 : ¬ ((v316 1) = 0)) (h4 : ¬ ((v316 1) = 0)) : gsY_X11_readLine_1_J3 v f w g = ((upd v316 19 r314), f317, w318, g319) := by
  simp only [gsY_X11_readLine_1_J3, h0, if_pos h1, h2, if_neg h3, if_neg h4, ite11, ite01]
theorem gsY_X11_readLine_1_q40 {v : Nat → Int32} {f : Nat → Nat → Int32} {w : Int64} {g : Nat → Int64} {r314 : Int32} {v316 : Nat → Int32} {f317 : Nat → Nat → Int32} {w318 : Int64} {g319 : Nat → Int64} {v328 : Nat → Int32} {f329 : Nat → Nat → Int32} {w330 : Int64} {g331 : Nat → Int64} (h0 : gsY_X11_isWord_1 (1700885369 : Int64) v f w g = 1) (h1 : ((v 30) = 0)) (h2 : gsY_X11_told_1 (1700885369 : Int64) 999 (upd v 30 1) f w g = (r314, v316, f317, w318, g319)) (h3 : ¬ ((v316 1) = 0)) (h4 : ((v316 1) = 0)) (h5 : gsY_X11_token_1 (upd v316 19 r314) f317 w318 g319 = (v328, f329, w330, g331)) : gsY_X11_readLine_1_J3 v f w g = (v328, f329, w330, g331) := by
  exact absurd h4 h3
theorem gsY_X11_readLine_1_q41 {v : Nat → Int32} {f : Nat → Nat → Int32} {w : Int64} {g : Nat → Int64} {r314 : Int32} {v316 : Nat → Int32} {f317 : Nat → Nat → Int32} {w318 : Int64} {g319 : Nat → Int64} (h0 : gsY_X11_isWord_1 (1700885369 : Int64) v f w g = 1) (h1 : ((v 30) = 0)) (h2 : gsY_X11_told_1 (1700885369 : Int64) 999 (upd v 30 1) f w g = (r314, v316, f317, w318, g319)) (h3 : ((v316 1) = 0)) (h4 : ((v316 5) = 59)) (h5 : ¬ ((v316 1) = 0)) : gsY_X11_readLine_1_J3 v f w g = ((upd v316 19 r314), f317, w318, g319) := by
  exact absurd h3 h5
theorem gsY_X11_readLine_1_q42 {v : Nat → Int32} {f : Nat → Nat → Int32} {w : Int64} {g : Nat → Int64} {r314 : Int32} {v316 : Nat → Int32} {f317 : Nat → Nat → Int32} {w318 : Int64} {g319 : Nat → Int64} {v340 : Nat → Int32} {f341 : Nat → Nat → Int32} {w342 : Int64} {g343 : Nat → Int64} (h0 : gsY_X11_isWord_1 (1700885369 : Int64) v f w g = 1) (h1 : ((v 30) = 0)) (h2 : gsY_X11_told_1 (1700885369 : Int64) 999 (upd v 30 1) f w g = (r314, v316, f317, w318, g319)) (h3 : ((v316 1) = 0)) (h4 : ((v316 5) = 59)) (h5 : ((v316 1) = 0)) (h6 : gsY_X11_token_1 (upd v316 19 r314) f317 w318 g319 = (v340, f341, w342, g343)) : gsY_X11_readLine_1_J3 v f w g = (v340, f341, w342, g343) := by
  simp only [gsY_X11_readLine_1_J3, h0, if_pos h1, h2, if_pos h3, if_pos h4, if_pos h5, h6, ite11, ite01]
theorem gsY_X11_readLine_1_q43 {v : Nat → Int32} {f : Nat → Nat → Int32} {w : Int64} {g : Nat → Int64} {r314 : Int32} {v316 : Nat → Int32} {f317 : Nat → Nat → Int32} {w318 : Int64} {g319 : Nat → Int64} {v350 : Nat → Int32} {f351 : Nat → Nat → Int32} {w352 : Int64} {g353 : Nat → Int64} (h0 : gsY_X11_isWord_1 (1700885369 : Int64) v f w g = 1) (h1 : ((v 30) = 0)) (h2 : gsY_X11_told_1 (1700885369 : Int64) 999 (upd v 30 1) f w g = (r314, v316, f317, w318, g319)) (h3 : ((v316 1) = 0)) (h4 : ¬ ((v316 5) = 59)) (h5 : gsY_X11_wrong_1 2 (upd v316 19 r314) f317 w318 g319 = (v350, f351, w352, g353)) (h6 : ¬ ((v350 1) = 0)) : gsY_X11_readLine_1_J3 v f w g = (v350, f351, w352, g353) := by
  simp only [gsY_X11_readLine_1_J3, h0, if_pos h1, h2, if_pos h3, if_neg h4, h5, if_neg h6, ite11, ite01]
theorem gsY_X11_readLine_1_q44 {v : Nat → Int32} {f : Nat → Nat → Int32} {w : Int64} {g : Nat → Int64} {r314 : Int32} {v316 : Nat → Int32} {f317 : Nat → Nat → Int32} {w318 : Int64} {g319 : Nat → Int64} {v350 : Nat → Int32} {f351 : Nat → Nat → Int32} {w352 : Int64} {g353 : Nat → Int64} {v362 : Nat → Int32} {f363 : Nat → Nat → Int32} {w364 : Int64} {g365 : Nat → Int64} (h0 : gsY_X11_isWord_1 (1700885369 : Int64) v f w g = 1) (h1 : ((v 30) = 0)) (h2 : gsY_X11_told_1 (1700885369 : Int64) 999 (upd v 30 1) f w g = (r314, v316, f317, w318, g319)) (h3 : ((v316 1) = 0)) (h4 : ¬ ((v316 5) = 59)) (h5 : gsY_X11_wrong_1 2 (upd v316 19 r314) f317 w318 g319 = (v350, f351, w352, g353)) (h6 : ((v350 1) = 0)) (h7 : gsY_X11_token_1 v350 f351 w352 g353 = (v362, f363, w364, g365)) : gsY_X11_readLine_1_J3 v f w g = (v362, f363, w364, g365) := by
  simp only [gsY_X11_readLine_1_J3, h0, if_pos h1, h2, if_pos h3, if_neg h4, h5, if_pos h6, h7, ite11, ite01]
theorem gsY_X11_readLine_1_q45 {v : Nat → Int32} {f : Nat → Nat → Int32} {w : Int64} {g : Nat → Int64} (h0 : gsY_X11_isWord_1 (1700885369 : Int64) v f w g = 0) : gsY_X11_readLine_1_J3 v f w g = gsY_X11_readLine_1_J4 v f w g := by
  simp only [gsY_X11_readLine_1_J3, h0, ite11, ite01]
theorem gsY_X11_readLine_1_q30 {v : Nat → Int32} {f : Nat → Nat → Int32} {w : Int64} {g : Nat → Int64} (h0 : gsY_X11_isWord_1 (1651469428 : Int64) v f w g = 1) (h1 : ¬ ((v 31) = 0)) : gsY_X11_readLine_1_J4 v f w g = gsY_X11_readLine_1_J5 v f w g := by
  simp only [gsY_X11_readLine_1_J4, h0, if_neg h1, ite11, ite01]
theorem gsY_X11_readLine_1_q31 {v : Nat → Int32} {f : Nat → Nat → Int32} {w : Int64} {g : Nat → Int64} {r253 : Int32} {v255 : Nat → Int32} {f256 : Nat → Nat → Int32} {w257 : Int64} {g258 : Nat → Int64} (h0 : gsY_X11_isWord_1 (1651469428 : Int64) v f w g = 1) (h1 : ((v 31) = 0)) (h2 : gsY_X11_told_1 (1651469428 : Int64) 999 (upd v 31 1) f w g = (r253, v255, f256, w257, g258)) (h3 : ¬ ((v255 1) = 0)) (h4 : ¬ ((v255 1) = 0)) : gsY_X11_readLine_1_J4 v f w g = ((upd v255 20 r253), f256, w257, g258) := by
  simp only [gsY_X11_readLine_1_J4, h0, if_pos h1, h2, if_neg h3, if_neg h4, ite11, ite01]
theorem gsY_X11_readLine_1_q32 {v : Nat → Int32} {f : Nat → Nat → Int32} {w : Int64} {g : Nat → Int64} {r253 : Int32} {v255 : Nat → Int32} {f256 : Nat → Nat → Int32} {w257 : Int64} {g258 : Nat → Int64} {v267 : Nat → Int32} {f268 : Nat → Nat → Int32} {w269 : Int64} {g270 : Nat → Int64} (h0 : gsY_X11_isWord_1 (1651469428 : Int64) v f w g = 1) (h1 : ((v 31) = 0)) (h2 : gsY_X11_told_1 (1651469428 : Int64) 999 (upd v 31 1) f w g = (r253, v255, f256, w257, g258)) (h3 : ¬ ((v255 1) = 0)) (h4 : ((v255 1) = 0)) (h5 : gsY_X11_token_1 (upd v255 20 r253) f256 w257 g258 = (v267, f268, w269, g270)) : gsY_X11_readLine_1_J4 v f w g = (v267, f268, w269, g270) := by
  exact absurd h4 h3
theorem gsY_X11_readLine_1_q33 {v : Nat → Int32} {f : Nat → Nat → Int32} {w : Int64} {g : Nat → Int64} {r253 : Int32} {v255 : Nat → Int32} {f256 : Nat → Nat → Int32} {w257 : Int64} {g258 : Nat → Int64} (h0 : gsY_X11_isWord_1 (1651469428 : Int64) v f w g = 1) (h1 : ((v 31) = 0)) (h2 : gsY_X11_told_1 (1651469428 : Int64) 999 (upd v 31 1) f w g = (r253, v255, f256, w257, g258)) (h3 : ((v255 1) = 0)) (h4 : ((v255 5) = 59)) (h5 : ¬ ((v255 1) = 0)) : gsY_X11_readLine_1_J4 v f w g = ((upd v255 20 r253), f256, w257, g258) := by
  exact absurd h3 h5
theorem gsY_X11_readLine_1_q34 {v : Nat → Int32} {f : Nat → Nat → Int32} {w : Int64} {g : Nat → Int64} {r253 : Int32} {v255 : Nat → Int32} {f256 : Nat → Nat → Int32} {w257 : Int64} {g258 : Nat → Int64} {v279 : Nat → Int32} {f280 : Nat → Nat → Int32} {w281 : Int64} {g282 : Nat → Int64} (h0 : gsY_X11_isWord_1 (1651469428 : Int64) v f w g = 1) (h1 : ((v 31) = 0)) (h2 : gsY_X11_told_1 (1651469428 : Int64) 999 (upd v 31 1) f w g = (r253, v255, f256, w257, g258)) (h3 : ((v255 1) = 0)) (h4 : ((v255 5) = 59)) (h5 : ((v255 1) = 0)) (h6 : gsY_X11_token_1 (upd v255 20 r253) f256 w257 g258 = (v279, f280, w281, g282)) : gsY_X11_readLine_1_J4 v f w g = (v279, f280, w281, g282) := by
  simp only [gsY_X11_readLine_1_J4, h0, if_pos h1, h2, if_pos h3, if_pos h4, if_pos h5, h6, ite11, ite01]
theorem gsY_X11_readLine_1_q35 {v : Nat → Int32} {f : Nat → Nat → Int32} {w : Int64} {g : Nat → Int64} {r253 : Int32} {v255 : Nat → Int32} {f256 : Nat → Nat → Int32} {w257 : Int64} {g258 : Nat → Int64} {v289 : Nat → Int32} {f290 : Nat → Nat → Int32} {w291 : Int64} {g292 : Nat → Int64} (h0 : gsY_X11_isWord_1 (1651469428 : Int64) v f w g = 1) (h1 : ((v 31) = 0)) (h2 : gsY_X11_told_1 (1651469428 : Int64) 999 (upd v 31 1) f w g = (r253, v255, f256, w257, g258)) (h3 : ((v255 1) = 0)) (h4 : ¬ ((v255 5) = 59)) (h5 : gsY_X11_wrong_1 2 (upd v255 20 r253) f256 w257 g258 = (v289, f290, w291, g292)) (h6 : ¬ ((v289 1) = 0)) : gsY_X11_readLine_1_J4 v f w g = (v289, f290, w291, g292) := by
  simp only [gsY_X11_readLine_1_J4, h0, if_pos h1, h2, if_pos h3, if_neg h4, h5, if_neg h6, ite11, ite01]
theorem gsY_X11_readLine_1_q36 {v : Nat → Int32} {f : Nat → Nat → Int32} {w : Int64} {g : Nat → Int64} {r253 : Int32} {v255 : Nat → Int32} {f256 : Nat → Nat → Int32} {w257 : Int64} {g258 : Nat → Int64} {v289 : Nat → Int32} {f290 : Nat → Nat → Int32} {w291 : Int64} {g292 : Nat → Int64} {v301 : Nat → Int32} {f302 : Nat → Nat → Int32} {w303 : Int64} {g304 : Nat → Int64} (h0 : gsY_X11_isWord_1 (1651469428 : Int64) v f w g = 1) (h1 : ((v 31) = 0)) (h2 : gsY_X11_told_1 (1651469428 : Int64) 999 (upd v 31 1) f w g = (r253, v255, f256, w257, g258)) (h3 : ((v255 1) = 0)) (h4 : ¬ ((v255 5) = 59)) (h5 : gsY_X11_wrong_1 2 (upd v255 20 r253) f256 w257 g258 = (v289, f290, w291, g292)) (h6 : ((v289 1) = 0)) (h7 : gsY_X11_token_1 v289 f290 w291 g292 = (v301, f302, w303, g304)) : gsY_X11_readLine_1_J4 v f w g = (v301, f302, w303, g304) := by
  simp only [gsY_X11_readLine_1_J4, h0, if_pos h1, h2, if_pos h3, if_neg h4, h5, if_pos h6, h7, ite11, ite01]
theorem gsY_X11_readLine_1_q37 {v : Nat → Int32} {f : Nat → Nat → Int32} {w : Int64} {g : Nat → Int64} (h0 : gsY_X11_isWord_1 (1651469428 : Int64) v f w g = 0) : gsY_X11_readLine_1_J4 v f w g = gsY_X11_readLine_1_J5 v f w g := by
  simp only [gsY_X11_readLine_1_J4, h0, ite11, ite01]
theorem gsY_X11_readLine_1_q22 {v : Nat → Int32} {f : Nat → Nat → Int32} {w : Int64} {g : Nat → Int64} (h0 : gsY_X11_isWord_1 (1818848101 : Int64) v f w g = 1) (h1 : ¬ ((v 32) = 0)) : gsY_X11_readLine_1_J5 v f w g = gsY_X11_readLine_1_J6 v f w g := by
  simp only [gsY_X11_readLine_1_J5, h0, if_neg h1, ite11, ite01]
theorem gsY_X11_readLine_1_q23 {v : Nat → Int32} {f : Nat → Nat → Int32} {w : Int64} {g : Nat → Int64} {r192 : Int32} {v194 : Nat → Int32} {f195 : Nat → Nat → Int32} {w196 : Int64} {g197 : Nat → Int64} (h0 : gsY_X11_isWord_1 (1818848101 : Int64) v f w g = 1) (h1 : ((v 32) = 0)) (h2 : gsY_X11_told_1 (1818848101 : Int64) 99 (upd v 32 1) f w g = (r192, v194, f195, w196, g197)) (h3 : ¬ ((v194 1) = 0)) (h4 : ¬ ((v194 1) = 0)) : gsY_X11_readLine_1_J5 v f w g = ((upd v194 21 r192), f195, w196, g197) := by
  simp only [gsY_X11_readLine_1_J5, h0, if_pos h1, h2, if_neg h3, if_neg h4, ite11, ite01]
theorem gsY_X11_readLine_1_q24 {v : Nat → Int32} {f : Nat → Nat → Int32} {w : Int64} {g : Nat → Int64} {r192 : Int32} {v194 : Nat → Int32} {f195 : Nat → Nat → Int32} {w196 : Int64} {g197 : Nat → Int64} {v206 : Nat → Int32} {f207 : Nat → Nat → Int32} {w208 : Int64} {g209 : Nat → Int64} (h0 : gsY_X11_isWord_1 (1818848101 : Int64) v f w g = 1) (h1 : ((v 32) = 0)) (h2 : gsY_X11_told_1 (1818848101 : Int64) 99 (upd v 32 1) f w g = (r192, v194, f195, w196, g197)) (h3 : ¬ ((v194 1) = 0)) (h4 : ((v194 1) = 0)) (h5 : gsY_X11_token_1 (upd v194 21 r192) f195 w196 g197 = (v206, f207, w208, g209)) : gsY_X11_readLine_1_J5 v f w g = (v206, f207, w208, g209) := by
  exact absurd h4 h3
theorem gsY_X11_readLine_1_q25 {v : Nat → Int32} {f : Nat → Nat → Int32} {w : Int64} {g : Nat → Int64} {r192 : Int32} {v194 : Nat → Int32} {f195 : Nat → Nat → Int32} {w196 : Int64} {g197 : Nat → Int64} (h0 : gsY_X11_isWord_1 (1818848101 : Int64) v f w g = 1) (h1 : ((v 32) = 0)) (h2 : gsY_X11_told_1 (1818848101 : Int64) 99 (upd v 32 1) f w g = (r192, v194, f195, w196, g197)) (h3 : ((v194 1) = 0)) (h4 : ((v194 5) = 59)) (h5 : ¬ ((v194 1) = 0)) : gsY_X11_readLine_1_J5 v f w g = ((upd v194 21 r192), f195, w196, g197) := by
  exact absurd h3 h5
theorem gsY_X11_readLine_1_q26 {v : Nat → Int32} {f : Nat → Nat → Int32} {w : Int64} {g : Nat → Int64} {r192 : Int32} {v194 : Nat → Int32} {f195 : Nat → Nat → Int32} {w196 : Int64} {g197 : Nat → Int64} {v218 : Nat → Int32} {f219 : Nat → Nat → Int32} {w220 : Int64} {g221 : Nat → Int64} (h0 : gsY_X11_isWord_1 (1818848101 : Int64) v f w g = 1) (h1 : ((v 32) = 0)) (h2 : gsY_X11_told_1 (1818848101 : Int64) 99 (upd v 32 1) f w g = (r192, v194, f195, w196, g197)) (h3 : ((v194 1) = 0)) (h4 : ((v194 5) = 59)) (h5 : ((v194 1) = 0)) (h6 : gsY_X11_token_1 (upd v194 21 r192) f195 w196 g197 = (v218, f219, w220, g221)) : gsY_X11_readLine_1_J5 v f w g = (v218, f219, w220, g221) := by
  simp only [gsY_X11_readLine_1_J5, h0, if_pos h1, h2, if_pos h3, if_pos h4, if_pos h5, h6, ite11, ite01]
theorem gsY_X11_readLine_1_q27 {v : Nat → Int32} {f : Nat → Nat → Int32} {w : Int64} {g : Nat → Int64} {r192 : Int32} {v194 : Nat → Int32} {f195 : Nat → Nat → Int32} {w196 : Int64} {g197 : Nat → Int64} {v228 : Nat → Int32} {f229 : Nat → Nat → Int32} {w230 : Int64} {g231 : Nat → Int64} (h0 : gsY_X11_isWord_1 (1818848101 : Int64) v f w g = 1) (h1 : ((v 32) = 0)) (h2 : gsY_X11_told_1 (1818848101 : Int64) 99 (upd v 32 1) f w g = (r192, v194, f195, w196, g197)) (h3 : ((v194 1) = 0)) (h4 : ¬ ((v194 5) = 59)) (h5 : gsY_X11_wrong_1 2 (upd v194 21 r192) f195 w196 g197 = (v228, f229, w230, g231)) (h6 : ¬ ((v228 1) = 0)) : gsY_X11_readLine_1_J5 v f w g = (v228, f229, w230, g231) := by
  simp only [gsY_X11_readLine_1_J5, h0, if_pos h1, h2, if_pos h3, if_neg h4, h5, if_neg h6, ite11, ite01]
theorem gsY_X11_readLine_1_q28 {v : Nat → Int32} {f : Nat → Nat → Int32} {w : Int64} {g : Nat → Int64} {r192 : Int32} {v194 : Nat → Int32} {f195 : Nat → Nat → Int32} {w196 : Int64} {g197 : Nat → Int64} {v228 : Nat → Int32} {f229 : Nat → Nat → Int32} {w230 : Int64} {g231 : Nat → Int64} {v240 : Nat → Int32} {f241 : Nat → Nat → Int32} {w242 : Int64} {g243 : Nat → Int64} (h0 : gsY_X11_isWord_1 (1818848101 : Int64) v f w g = 1) (h1 : ((v 32) = 0)) (h2 : gsY_X11_told_1 (1818848101 : Int64) 99 (upd v 32 1) f w g = (r192, v194, f195, w196, g197)) (h3 : ((v194 1) = 0)) (h4 : ¬ ((v194 5) = 59)) (h5 : gsY_X11_wrong_1 2 (upd v194 21 r192) f195 w196 g197 = (v228, f229, w230, g231)) (h6 : ((v228 1) = 0)) (h7 : gsY_X11_token_1 v228 f229 w230 g231 = (v240, f241, w242, g243)) : gsY_X11_readLine_1_J5 v f w g = (v240, f241, w242, g243) := by
  simp only [gsY_X11_readLine_1_J5, h0, if_pos h1, h2, if_pos h3, if_neg h4, h5, if_pos h6, h7, ite11, ite01]
theorem gsY_X11_readLine_1_q29 {v : Nat → Int32} {f : Nat → Nat → Int32} {w : Int64} {g : Nat → Int64} (h0 : gsY_X11_isWord_1 (1818848101 : Int64) v f w g = 0) : gsY_X11_readLine_1_J5 v f w g = gsY_X11_readLine_1_J6 v f w g := by
  simp only [gsY_X11_readLine_1_J5, h0, ite11, ite01]
theorem gsY_X11_readLine_1_q14 {v : Nat → Int32} {f : Nat → Nat → Int32} {w : Int64} {g : Nat → Int64} (h0 : gsY_X11_isWord_1 (1918986606 : Int64) v f w g = 1) (h1 : ¬ ((v 33) = 0)) : gsY_X11_readLine_1_J6 v f w g = gsY_X11_readLine_1_J7 v f w g := by
  simp only [gsY_X11_readLine_1_J6, h0, if_neg h1, ite11, ite01]
theorem gsY_X11_readLine_1_q15 {v : Nat → Int32} {f : Nat → Nat → Int32} {w : Int64} {g : Nat → Int64} {r131 : Int32} {v133 : Nat → Int32} {f134 : Nat → Nat → Int32} {w135 : Int64} {g136 : Nat → Int64} (h0 : gsY_X11_isWord_1 (1918986606 : Int64) v f w g = 1) (h1 : ((v 33) = 0)) (h2 : gsY_X11_told_1 (1918986606 : Int64) 100 (upd v 33 1) f w g = (r131, v133, f134, w135, g136)) (h3 : ¬ ((v133 1) = 0)) (h4 : ¬ ((v133 1) = 0)) : gsY_X11_readLine_1_J6 v f w g = ((upd v133 22 r131), f134, w135, g136) := by
  simp only [gsY_X11_readLine_1_J6, h0, if_pos h1, h2, if_neg h3, if_neg h4, ite11, ite01]
theorem gsY_X11_readLine_1_q16 {v : Nat → Int32} {f : Nat → Nat → Int32} {w : Int64} {g : Nat → Int64} {r131 : Int32} {v133 : Nat → Int32} {f134 : Nat → Nat → Int32} {w135 : Int64} {g136 : Nat → Int64} {v145 : Nat → Int32} {f146 : Nat → Nat → Int32} {w147 : Int64} {g148 : Nat → Int64} (h0 : gsY_X11_isWord_1 (1918986606 : Int64) v f w g = 1) (h1 : ((v 33) = 0)) (h2 : gsY_X11_told_1 (1918986606 : Int64) 100 (upd v 33 1) f w g = (r131, v133, f134, w135, g136)) (h3 : ¬ ((v133 1) = 0)) (h4 : ((v133 1) = 0)) (h5 : gsY_X11_token_1 (upd v133 22 r131) f134 w135 g136 = (v145, f146, w147, g148)) : gsY_X11_readLine_1_J6 v f w g = (v145, f146, w147, g148) := by
  exact absurd h4 h3
theorem gsY_X11_readLine_1_q17 {v : Nat → Int32} {f : Nat → Nat → Int32} {w : Int64} {g : Nat → Int64} {r131 : Int32} {v133 : Nat → Int32} {f134 : Nat → Nat → Int32} {w135 : Int64} {g136 : Nat → Int64} (h0 : gsY_X11_isWord_1 (1918986606 : Int64) v f w g = 1) (h1 : ((v 33) = 0)) (h2 : gsY_X11_told_1 (1918986606 : Int64) 100 (upd v 33 1) f w g = (r131, v133, f134, w135, g136)) (h3 : ((v133 1) = 0)) (h4 : ((v133 5) = 59)) (h5 : ¬ ((v133 1) = 0)) : gsY_X11_readLine_1_J6 v f w g = ((upd v133 22 r131), f134, w135, g136) := by
  exact absurd h3 h5
theorem gsY_X11_readLine_1_q18 {v : Nat → Int32} {f : Nat → Nat → Int32} {w : Int64} {g : Nat → Int64} {r131 : Int32} {v133 : Nat → Int32} {f134 : Nat → Nat → Int32} {w135 : Int64} {g136 : Nat → Int64} {v157 : Nat → Int32} {f158 : Nat → Nat → Int32} {w159 : Int64} {g160 : Nat → Int64} (h0 : gsY_X11_isWord_1 (1918986606 : Int64) v f w g = 1) (h1 : ((v 33) = 0)) (h2 : gsY_X11_told_1 (1918986606 : Int64) 100 (upd v 33 1) f w g = (r131, v133, f134, w135, g136)) (h3 : ((v133 1) = 0)) (h4 : ((v133 5) = 59)) (h5 : ((v133 1) = 0)) (h6 : gsY_X11_token_1 (upd v133 22 r131) f134 w135 g136 = (v157, f158, w159, g160)) : gsY_X11_readLine_1_J6 v f w g = (v157, f158, w159, g160) := by
  simp only [gsY_X11_readLine_1_J6, h0, if_pos h1, h2, if_pos h3, if_pos h4, if_pos h5, h6, ite11, ite01]
theorem gsY_X11_readLine_1_q19 {v : Nat → Int32} {f : Nat → Nat → Int32} {w : Int64} {g : Nat → Int64} {r131 : Int32} {v133 : Nat → Int32} {f134 : Nat → Nat → Int32} {w135 : Int64} {g136 : Nat → Int64} {v167 : Nat → Int32} {f168 : Nat → Nat → Int32} {w169 : Int64} {g170 : Nat → Int64} (h0 : gsY_X11_isWord_1 (1918986606 : Int64) v f w g = 1) (h1 : ((v 33) = 0)) (h2 : gsY_X11_told_1 (1918986606 : Int64) 100 (upd v 33 1) f w g = (r131, v133, f134, w135, g136)) (h3 : ((v133 1) = 0)) (h4 : ¬ ((v133 5) = 59)) (h5 : gsY_X11_wrong_1 2 (upd v133 22 r131) f134 w135 g136 = (v167, f168, w169, g170)) (h6 : ¬ ((v167 1) = 0)) : gsY_X11_readLine_1_J6 v f w g = (v167, f168, w169, g170) := by
  simp only [gsY_X11_readLine_1_J6, h0, if_pos h1, h2, if_pos h3, if_neg h4, h5, if_neg h6, ite11, ite01]
theorem gsY_X11_readLine_1_q20 {v : Nat → Int32} {f : Nat → Nat → Int32} {w : Int64} {g : Nat → Int64} {r131 : Int32} {v133 : Nat → Int32} {f134 : Nat → Nat → Int32} {w135 : Int64} {g136 : Nat → Int64} {v167 : Nat → Int32} {f168 : Nat → Nat → Int32} {w169 : Int64} {g170 : Nat → Int64} {v179 : Nat → Int32} {f180 : Nat → Nat → Int32} {w181 : Int64} {g182 : Nat → Int64} (h0 : gsY_X11_isWord_1 (1918986606 : Int64) v f w g = 1) (h1 : ((v 33) = 0)) (h2 : gsY_X11_told_1 (1918986606 : Int64) 100 (upd v 33 1) f w g = (r131, v133, f134, w135, g136)) (h3 : ((v133 1) = 0)) (h4 : ¬ ((v133 5) = 59)) (h5 : gsY_X11_wrong_1 2 (upd v133 22 r131) f134 w135 g136 = (v167, f168, w169, g170)) (h6 : ((v167 1) = 0)) (h7 : gsY_X11_token_1 v167 f168 w169 g170 = (v179, f180, w181, g182)) : gsY_X11_readLine_1_J6 v f w g = (v179, f180, w181, g182) := by
  simp only [gsY_X11_readLine_1_J6, h0, if_pos h1, h2, if_pos h3, if_neg h4, h5, if_pos h6, h7, ite11, ite01]
theorem gsY_X11_readLine_1_q21 {v : Nat → Int32} {f : Nat → Nat → Int32} {w : Int64} {g : Nat → Int64} (h0 : gsY_X11_isWord_1 (1918986606 : Int64) v f w g = 0) : gsY_X11_readLine_1_J6 v f w g = gsY_X11_readLine_1_J7 v f w g := by
  simp only [gsY_X11_readLine_1_J6, h0, ite11, ite01]
theorem gsY_X11_readLine_1_q6 {v : Nat → Int32} {f : Nat → Nat → Int32} {w : Int64} {g : Nat → Int64} (h0 : gsY_X11_isWord_1 (1685217655 : Int64) v f w g = 1) (h1 : ¬ ((v 34) = 0)) : gsY_X11_readLine_1_J7 v f w g = gsY_X11_readLine_1_J8 v f w g := by
  simp only [gsY_X11_readLine_1_J7, h0, if_neg h1, ite11, ite01]
theorem gsY_X11_readLine_1_q7 {v : Nat → Int32} {f : Nat → Nat → Int32} {w : Int64} {g : Nat → Int64} {r70 : Int32} {v72 : Nat → Int32} {f73 : Nat → Nat → Int32} {w74 : Int64} {g75 : Nat → Int64} (h0 : gsY_X11_isWord_1 (1685217655 : Int64) v f w g = 1) (h1 : ((v 34) = 0)) (h2 : gsY_X11_told_1 (1685217655 : Int64) 999 (upd v 34 1) f w g = (r70, v72, f73, w74, g75)) (h3 : ¬ ((v72 1) = 0)) (h4 : ¬ ((v72 1) = 0)) : gsY_X11_readLine_1_J7 v f w g = ((upd v72 23 r70), f73, w74, g75) := by
  simp only [gsY_X11_readLine_1_J7, h0, if_pos h1, h2, if_neg h3, if_neg h4, ite11, ite01]
theorem gsY_X11_readLine_1_q8 {v : Nat → Int32} {f : Nat → Nat → Int32} {w : Int64} {g : Nat → Int64} {r70 : Int32} {v72 : Nat → Int32} {f73 : Nat → Nat → Int32} {w74 : Int64} {g75 : Nat → Int64} {v84 : Nat → Int32} {f85 : Nat → Nat → Int32} {w86 : Int64} {g87 : Nat → Int64} (h0 : gsY_X11_isWord_1 (1685217655 : Int64) v f w g = 1) (h1 : ((v 34) = 0)) (h2 : gsY_X11_told_1 (1685217655 : Int64) 999 (upd v 34 1) f w g = (r70, v72, f73, w74, g75)) (h3 : ¬ ((v72 1) = 0)) (h4 : ((v72 1) = 0)) (h5 : gsY_X11_token_1 (upd v72 23 r70) f73 w74 g75 = (v84, f85, w86, g87)) : gsY_X11_readLine_1_J7 v f w g = (v84, f85, w86, g87) := by
  exact absurd h4 h3
theorem gsY_X11_readLine_1_q9 {v : Nat → Int32} {f : Nat → Nat → Int32} {w : Int64} {g : Nat → Int64} {r70 : Int32} {v72 : Nat → Int32} {f73 : Nat → Nat → Int32} {w74 : Int64} {g75 : Nat → Int64} (h0 : gsY_X11_isWord_1 (1685217655 : Int64) v f w g = 1) (h1 : ((v 34) = 0)) (h2 : gsY_X11_told_1 (1685217655 : Int64) 999 (upd v 34 1) f w g = (r70, v72, f73, w74, g75)) (h3 : ((v72 1) = 0)) (h4 : ((v72 5) = 59)) (h5 : ¬ ((v72 1) = 0)) : gsY_X11_readLine_1_J7 v f w g = ((upd v72 23 r70), f73, w74, g75) := by
  exact absurd h3 h5
theorem gsY_X11_readLine_1_q10 {v : Nat → Int32} {f : Nat → Nat → Int32} {w : Int64} {g : Nat → Int64} {r70 : Int32} {v72 : Nat → Int32} {f73 : Nat → Nat → Int32} {w74 : Int64} {g75 : Nat → Int64} {v96 : Nat → Int32} {f97 : Nat → Nat → Int32} {w98 : Int64} {g99 : Nat → Int64} (h0 : gsY_X11_isWord_1 (1685217655 : Int64) v f w g = 1) (h1 : ((v 34) = 0)) (h2 : gsY_X11_told_1 (1685217655 : Int64) 999 (upd v 34 1) f w g = (r70, v72, f73, w74, g75)) (h3 : ((v72 1) = 0)) (h4 : ((v72 5) = 59)) (h5 : ((v72 1) = 0)) (h6 : gsY_X11_token_1 (upd v72 23 r70) f73 w74 g75 = (v96, f97, w98, g99)) : gsY_X11_readLine_1_J7 v f w g = (v96, f97, w98, g99) := by
  simp only [gsY_X11_readLine_1_J7, h0, if_pos h1, h2, if_pos h3, if_pos h4, if_pos h5, h6, ite11, ite01]
theorem gsY_X11_readLine_1_q11 {v : Nat → Int32} {f : Nat → Nat → Int32} {w : Int64} {g : Nat → Int64} {r70 : Int32} {v72 : Nat → Int32} {f73 : Nat → Nat → Int32} {w74 : Int64} {g75 : Nat → Int64} {v106 : Nat → Int32} {f107 : Nat → Nat → Int32} {w108 : Int64} {g109 : Nat → Int64} (h0 : gsY_X11_isWord_1 (1685217655 : Int64) v f w g = 1) (h1 : ((v 34) = 0)) (h2 : gsY_X11_told_1 (1685217655 : Int64) 999 (upd v 34 1) f w g = (r70, v72, f73, w74, g75)) (h3 : ((v72 1) = 0)) (h4 : ¬ ((v72 5) = 59)) (h5 : gsY_X11_wrong_1 2 (upd v72 23 r70) f73 w74 g75 = (v106, f107, w108, g109)) (h6 : ¬ ((v106 1) = 0)) : gsY_X11_readLine_1_J7 v f w g = (v106, f107, w108, g109) := by
  simp only [gsY_X11_readLine_1_J7, h0, if_pos h1, h2, if_pos h3, if_neg h4, h5, if_neg h6, ite11, ite01]
theorem gsY_X11_readLine_1_q12 {v : Nat → Int32} {f : Nat → Nat → Int32} {w : Int64} {g : Nat → Int64} {r70 : Int32} {v72 : Nat → Int32} {f73 : Nat → Nat → Int32} {w74 : Int64} {g75 : Nat → Int64} {v106 : Nat → Int32} {f107 : Nat → Nat → Int32} {w108 : Int64} {g109 : Nat → Int64} {v118 : Nat → Int32} {f119 : Nat → Nat → Int32} {w120 : Int64} {g121 : Nat → Int64} (h0 : gsY_X11_isWord_1 (1685217655 : Int64) v f w g = 1) (h1 : ((v 34) = 0)) (h2 : gsY_X11_told_1 (1685217655 : Int64) 999 (upd v 34 1) f w g = (r70, v72, f73, w74, g75)) (h3 : ((v72 1) = 0)) (h4 : ¬ ((v72 5) = 59)) (h5 : gsY_X11_wrong_1 2 (upd v72 23 r70) f73 w74 g75 = (v106, f107, w108, g109)) (h6 : ((v106 1) = 0)) (h7 : gsY_X11_token_1 v106 f107 w108 g109 = (v118, f119, w120, g121)) : gsY_X11_readLine_1_J7 v f w g = (v118, f119, w120, g121) := by
  simp only [gsY_X11_readLine_1_J7, h0, if_pos h1, h2, if_pos h3, if_neg h4, h5, if_pos h6, h7, ite11, ite01]
theorem gsY_X11_readLine_1_q13 {v : Nat → Int32} {f : Nat → Nat → Int32} {w : Int64} {g : Nat → Int64} (h0 : gsY_X11_isWord_1 (1685217655 : Int64) v f w g = 0) : gsY_X11_readLine_1_J7 v f w g = gsY_X11_readLine_1_J8 v f w g := by
  simp only [gsY_X11_readLine_1_J7, h0, ite11, ite01]
theorem gsY_X11_readLine_1_q0 {v : Nat → Int32} {f : Nat → Nat → Int32} {w : Int64} {g : Nat → Int64} {v10 : Nat → Int32} {f11 : Nat → Nat → Int32} {w12 : Int64} {g13 : Nat → Int64} (h0 : gsY_X11_wrong_1 2 v f w g = (v10, f11, w12, g13)) (h1 : ¬ ((v10 1) = 0)) (h2 : ¬ ((v10 1) = 0)) : gsY_X11_readLine_1_J8 v f w g = (v10, f11, w12, g13) := by
  simp only [gsY_X11_readLine_1_J8, h0, if_neg h1, if_neg h2]
theorem gsY_X11_readLine_1_q1 {v : Nat → Int32} {f : Nat → Nat → Int32} {w : Int64} {g : Nat → Int64} {v10 : Nat → Int32} {f11 : Nat → Nat → Int32} {w12 : Int64} {g13 : Nat → Int64} {v23 : Nat → Int32} {f24 : Nat → Nat → Int32} {w25 : Int64} {g26 : Nat → Int64} (h0 : gsY_X11_wrong_1 2 v f w g = (v10, f11, w12, g13)) (h1 : ¬ ((v10 1) = 0)) (h2 : ((v10 1) = 0)) (h3 : gsY_X11_token_1 v10 f11 w12 g13 = (v23, f24, w25, g26)) : gsY_X11_readLine_1_J8 v f w g = (v23, f24, w25, g26) := by
  exact absurd h2 h1
theorem gsY_X11_readLine_1_q2 {v : Nat → Int32} {f : Nat → Nat → Int32} {w : Int64} {g : Nat → Int64} {v10 : Nat → Int32} {f11 : Nat → Nat → Int32} {w12 : Int64} {g13 : Nat → Int64} (h0 : gsY_X11_wrong_1 2 v f w g = (v10, f11, w12, g13)) (h1 : ((v10 1) = 0)) (h2 : ((v 5) = 59)) (h3 : ¬ ((v10 1) = 0)) : gsY_X11_readLine_1_J8 v f w g = (v10, f11, w12, g13) := by
  exact absurd h1 h3
theorem gsY_X11_readLine_1_q3 {v : Nat → Int32} {f : Nat → Nat → Int32} {w : Int64} {g : Nat → Int64} {v10 : Nat → Int32} {f11 : Nat → Nat → Int32} {w12 : Int64} {g13 : Nat → Int64} {v35 : Nat → Int32} {f36 : Nat → Nat → Int32} {w37 : Int64} {g38 : Nat → Int64} (h0 : gsY_X11_wrong_1 2 v f w g = (v10, f11, w12, g13)) (h1 : ((v10 1) = 0)) (h2 : ((v 5) = 59)) (h3 : ((v10 1) = 0)) (h4 : gsY_X11_token_1 v10 f11 w12 g13 = (v35, f36, w37, g38)) : gsY_X11_readLine_1_J8 v f w g = (v35, f36, w37, g38) := by
  simp only [gsY_X11_readLine_1_J8, h0, if_pos h1, if_pos h2, if_pos h3, h4]
theorem gsY_X11_readLine_1_q4 {v : Nat → Int32} {f : Nat → Nat → Int32} {w : Int64} {g : Nat → Int64} {v10 : Nat → Int32} {f11 : Nat → Nat → Int32} {w12 : Int64} {g13 : Nat → Int64} {v45 : Nat → Int32} {f46 : Nat → Nat → Int32} {w47 : Int64} {g48 : Nat → Int64} (h0 : gsY_X11_wrong_1 2 v f w g = (v10, f11, w12, g13)) (h1 : ((v10 1) = 0)) (h2 : ¬ ((v 5) = 59)) (h3 : gsY_X11_wrong_1 2 v10 f11 w12 g13 = (v45, f46, w47, g48)) (h4 : ¬ ((v45 1) = 0)) : gsY_X11_readLine_1_J8 v f w g = (v45, f46, w47, g48) := by
  simp only [gsY_X11_readLine_1_J8, h0, if_pos h1, if_neg h2, h3, if_neg h4]
theorem gsY_X11_readLine_1_q5 {v : Nat → Int32} {f : Nat → Nat → Int32} {w : Int64} {g : Nat → Int64} {v10 : Nat → Int32} {f11 : Nat → Nat → Int32} {w12 : Int64} {g13 : Nat → Int64} {v45 : Nat → Int32} {f46 : Nat → Nat → Int32} {w47 : Int64} {g48 : Nat → Int64} {v57 : Nat → Int32} {f58 : Nat → Nat → Int32} {w59 : Int64} {g60 : Nat → Int64} (h0 : gsY_X11_wrong_1 2 v f w g = (v10, f11, w12, g13)) (h1 : ((v10 1) = 0)) (h2 : ¬ ((v 5) = 59)) (h3 : gsY_X11_wrong_1 2 v10 f11 w12 g13 = (v45, f46, w47, g48)) (h4 : ((v45 1) = 0)) (h5 : gsY_X11_token_1 v45 f46 w47 g48 = (v57, f58, w59, g60)) : gsY_X11_readLine_1_J8 v f w g = (v57, f58, w59, g60) := by
  simp only [gsY_X11_readLine_1_J8, h0, if_pos h1, if_neg h2, h3, if_pos h4, h5]
