def gsY_X11_formula_1_J22 (NF : Nat) (f20 : Nat → Nat → Int32) (g20 : Nat → Int64) (v20 : Nat → Int32) (w20 : Int64) : (Nat → Int32) × (Nat → Nat → Int32) × (Int64) × (Nat → Int64) :=
  if (v20 1) = 0 then
    match gsY_X11_close_1 NF 0 v20 f20 w20 g20 with
    | (v25, f26, w27, g28) =>
      (v25, f26, w27, g28)
  else
    (v20, f20, w20, g20)
def gsY_X11_formula_1_J21 (NF : Nat) (f20 : Nat → Nat → Int32) (g20 : Nat → Int64) (v20 : Nat → Int32) (w20 : Int64) : (Nat → Int32) × (Nat → Nat → Int32) × (Int64) × (Nat → Int64) :=
  if (v20 1) = 0 then
    if gsY_X11_hasBracket_1 NF v20 f20 w20 g20 = 1 then
      match gsY_X11_wrong_1 NF 2 v20 f20 w20 g20 with
      | (v42, f43, w44, g45) =>
        if (v42 1) = 0 then
          match gsY_X11_close_1 NF 0 v42 f43 w44 g45 with
          | (v54, f55, w56, g57) =>
            (v54, f55, w56, g57)
        else
          (v42, f43, w44, g45)
    else
      gsY_X11_formula_1_J22 NF f20 g20 v20 w20
  else
    gsY_X11_formula_1_J22 NF f20 g20 v20 w20
def gsY_X11_formula_1_J71 (NF : Nat) (f20 : Nat → Nat → Int32) (g20 : Nat → Int64) (v20 : Nat → Int32) (w20 : Int64) (k20 : Int32 → (Nat → Int32) → (Nat → Nat → Int32) → Int64 → (Nat → Int64) → ((Nat → Int32) × (Nat → Nat → Int32) × (Int64) × (Nat → Int64))) : (Nat → Int32) × (Nat → Nat → Int32) × (Int64) × (Nat → Int64) :=
  k20 0 v20 f20 w20 g20
def gsY_X11_formula_1_J74 (NF : Nat) (f20 : Nat → Nat → Int32) (g20 : Nat → Int64) (l1_20 : Int32) (v20 : Nat → Int32) (w20 : Int64) (r68 : Int32) (k20 : Int32 → (Nat → Int32) → (Nat → Nat → Int32) → Int64 → (Nat → Int64) → ((Nat → Int32) × (Nat → Nat → Int32) × (Int64) × (Nat → Int64))) : (Nat → Int32) × (Nat → Nat → Int32) × (Int64) × (Nat → Int64) :=
  let r75 : Int32 := gsY_X11_tight_1 NF r68 v20 f20 w20 g20
  match gsY_X11_close_1 NF r75 v20 f20 w20 g20 with
  | (v78, f79, w80, g81) =>
    let f90 : Nat → Nat → Int32 := upd2 f79 6 (upd (f79 6) (v78 10).toNatClampNeg r68)
    let t91 : Int32 := (v78 10) + 1
    match gsY_X11_token_1 NF (upd v78 10 t91) f90 w80 g81 with
    | (v94, f95, w96, g97) =>
      match gsY_X11_unit_1 NF v94 f95 w96 g97 with
      | (v104, f105, w106, g107) =>
        k20 l1_20 v104 f105 w106 g107
def gsY_X11_formula_1_J72 (NF : Nat) (f20 : Nat → Nat → Int32) (g20 : Nat → Int64) (l1_20 : Int32) (v20 : Nat → Int32) (w20 : Int64) (r68 : Int32) (k20 : Int32 → (Nat → Int32) → (Nat → Nat → Int32) → Int64 → (Nat → Int64) → ((Nat → Int32) × (Nat → Nat → Int32) × (Int64) × (Nat → Int64))) : (Nat → Int32) × (Nat → Nat → Int32) × (Int64) × (Nat → Int64) :=
  if r68 = 0 then
    gsY_X11_formula_1_J71 NF f20 g20 v20 w20 k20
  else
    let r113 : Int32 := gsY_X11_tight_1 NF r68 v20 f20 w20 g20
    if r113 = 4 then
      if gsY_X11_hasRelation_1 NF v20 f20 w20 g20 = 1 then
        gsY_X11_formula_1_J71 NF f20 g20 v20 w20 k20
      else
        gsY_X11_formula_1_J74 NF f20 g20 l1_20 v20 w20 r68 k20
    else
      gsY_X11_formula_1_J74 NF f20 g20 l1_20 v20 w20 r68 k20
def gsY_X11_formula_1_L20 (NF : Nat) : Nat → (Int32) → (Nat → Int32) → (Nat → Nat → Int32) → (Int64) → (Nat → Int64) → (Nat → Int32) × (Nat → Nat → Int32) × (Int64) × (Nat → Int64)
  | 0, _, _, _, _, _ => ((fun _ => 0), (fun _ _ => 0), 0, (fun _ => 0))
  | n20 + 1, l1_20, v20, f20, w20, g20 =>
    if l1_20 = 0 then
      gsY_X11_formula_1_J21 NF f20 g20 v20 w20
    else
      if (v20 1) = 0 then
        let r68 : Int32 := gsY_X11_sign_1 NF v20 f20 w20 g20
        if (v20 5) = 41 then
          if gsY_X11_hasBracket_1 NF v20 f20 w20 g20 = 1 then
            match gsY_X11_close_1 NF 0 v20 f20 w20 g20 with
            | (v124, f125, w126, g127) =>
              let t136 : Int32 := (v124 10) - 1
              let t138 : Int32 := (v124 14) - 1
              match gsY_X11_token_1 NF (upd (upd v124 10 t136) 14 t138) f125 w126 g127 with
              | (v141, f142, w143, g144) =>
                gsY_X11_formula_1_L20 NF n20 l1_20 v141 f142 w143 g144
          else
            gsY_X11_formula_1_J72 NF f20 g20 l1_20 v20 w20 r68 (fun z0 z1 z2 z3 z4 => gsY_X11_formula_1_L20 NF n20 z0 z1 z2 z3 z4)
        else
          gsY_X11_formula_1_J72 NF f20 g20 l1_20 v20 w20 r68 (fun z0 z1 z2 z3 z4 => gsY_X11_formula_1_L20 NF n20 z0 z1 z2 z3 z4)
      else
        gsY_X11_formula_1_J21 NF f20 g20 v20 w20
def gsY_X11_formula_1 (NF : Nat) (v : Nat → Int32) (f : Nat → Nat → Int32) (w : Int64) (g : Nat → Int64) : (Nat → Int32) × (Nat → Nat → Int32) × (Int64) × (Nat → Int64) :=
  match gsY_X11_token_1 NF v f w g with
  | (v2, f3, w4, g5) =>
    match gsY_X11_unit_1 NF (upd (upd (upd (upd (upd v2 15 1) 8 0) 10 0) 14 0) 13 0) f3 w4 g5 with
    | (v12, f13, w14, g15) =>
      gsY_X11_formula_1_L20 NF (4294967296 + NF) 1 v12 f13 w14 g15
theorem gsY_X11_formula_1_q17 {NF : Nat} {v : Nat → Int32} {f : Nat → Nat → Int32} {w : Int64} {g : Nat → Int64} {v2 : Nat → Int32} {f3 : Nat → Nat → Int32} {w4 : Int64} {g5 : Nat → Int64} {v12 : Nat → Int32} {f13 : Nat → Nat → Int32} {w14 : Int64} {g15 : Nat → Int64} (h0 : gsY_X11_token_1 NF v f w g = (v2, f3, w4, g5)) (h1 : gsY_X11_unit_1 NF (upd (upd (upd (upd (upd v2 15 1) 8 0) 10 0) 14 0) 13 0) f3 w4 g5 = (v12, f13, w14, g15)) : gsY_X11_formula_1 NF v f w g = gsY_X11_formula_1_L20 NF (4294967296 + NF) 1 v12 f13 w14 g15 := by
  simp only [gsY_X11_formula_1, h0, h1]
theorem gsY_X11_formula_1_q6 {NF : Nat} {n20 : Nat} {l1_20 : Int32} {v20 : Nat → Int32} {f20 : Nat → Nat → Int32} {w20 : Int64} {g20 : Nat → Int64} (h0 : (l1_20 = 0)) : gsY_X11_formula_1_L20 NF (n20 + 1) l1_20 v20 f20 w20 g20 = gsY_X11_formula_1_J21 NF f20 g20 v20 w20 := by
  simp only [gsY_X11_formula_1_L20, if_pos h0]
theorem gsY_X11_formula_1_q7 {NF : Nat} {n20 : Nat} {l1_20 : Int32} {v20 : Nat → Int32} {f20 : Nat → Nat → Int32} {w20 : Int64} {g20 : Nat → Int64} (h0 : ¬ (l1_20 = 0)) (h1 : ¬ ((v20 1) = 0)) : gsY_X11_formula_1_L20 NF (n20 + 1) l1_20 v20 f20 w20 g20 = gsY_X11_formula_1_J21 NF f20 g20 v20 w20 := by
  simp only [gsY_X11_formula_1_L20, if_neg h0, if_neg h1]
theorem gsY_X11_formula_1_q14 {NF : Nat} {n20 : Nat} {l1_20 : Int32} {v20 : Nat → Int32} {f20 : Nat → Nat → Int32} {w20 : Int64} {g20 : Nat → Int64} {r68 : Int32} (h0 : ¬ (l1_20 = 0)) (h1 : ((v20 1) = 0)) (h2 : r68 = gsY_X11_sign_1 NF v20 f20 w20 g20) (h3 : ¬ ((v20 5) = 41)) : gsY_X11_formula_1_L20 NF (n20 + 1) l1_20 v20 f20 w20 g20 = gsY_X11_formula_1_J72 NF f20 g20 l1_20 v20 w20 r68 (fun z0 z1 z2 z3 z4 => gsY_X11_formula_1_L20 NF n20 z0 z1 z2 z3 z4) := by
  subst h2
  simp only [gsY_X11_formula_1_L20, if_neg h0, if_pos h1, if_neg h3]
theorem gsY_X11_formula_1_q15 {NF : Nat} {n20 : Nat} {l1_20 : Int32} {v20 : Nat → Int32} {f20 : Nat → Nat → Int32} {w20 : Int64} {g20 : Nat → Int64} {r68 : Int32} {v124 : Nat → Int32} {f125 : Nat → Nat → Int32} {w126 : Int64} {g127 : Nat → Int64} {t136 : Int32} {t138 : Int32} {v141 : Nat → Int32} {f142 : Nat → Nat → Int32} {w143 : Int64} {g144 : Nat → Int64} (h0 : ¬ (l1_20 = 0)) (h1 : ((v20 1) = 0)) (h2 : r68 = gsY_X11_sign_1 NF v20 f20 w20 g20) (h3 : ((v20 5) = 41)) (h4 : gsY_X11_hasBracket_1 NF v20 f20 w20 g20 = 1) (h5 : gsY_X11_close_1 NF 0 v20 f20 w20 g20 = (v124, f125, w126, g127)) (h6 : t136 = (v124 10) - 1) (h7 : t138 = (v124 14) - 1) (h8 : gsY_X11_token_1 NF (upd (upd v124 10 t136) 14 t138) f125 w126 g127 = (v141, f142, w143, g144)) : gsY_X11_formula_1_L20 NF (n20 + 1) l1_20 v20 f20 w20 g20 = gsY_X11_formula_1_L20 NF n20 l1_20 v141 f142 w143 g144 := by
  subst h2 h6 h7
  simp only [gsY_X11_formula_1_L20, if_neg h0, if_pos h1, if_pos h3, h4, h5, h8, ite11, ite01, if_true, if_false]
theorem gsY_X11_formula_1_q16 {NF : Nat} {n20 : Nat} {l1_20 : Int32} {v20 : Nat → Int32} {f20 : Nat → Nat → Int32} {w20 : Int64} {g20 : Nat → Int64} {r68 : Int32} (h0 : ¬ (l1_20 = 0)) (h1 : ((v20 1) = 0)) (h2 : r68 = gsY_X11_sign_1 NF v20 f20 w20 g20) (h3 : ((v20 5) = 41)) (h4 : gsY_X11_hasBracket_1 NF v20 f20 w20 g20 = 0) : gsY_X11_formula_1_L20 NF (n20 + 1) l1_20 v20 f20 w20 g20 = gsY_X11_formula_1_J72 NF f20 g20 l1_20 v20 w20 r68 (fun z0 z1 z2 z3 z4 => gsY_X11_formula_1_L20 NF n20 z0 z1 z2 z3 z4) := by
  subst h2
  simp only [gsY_X11_formula_1_L20, if_neg h0, if_pos h1, if_pos h3, h4, ite11, ite01, if_true, if_false]
theorem gsY_X11_formula_1_q2 {NF : Nat} {f20 : Nat → Nat → Int32} {g20 : Nat → Int64} {v20 : Nat → Int32} {w20 : Int64} (h0 : ¬ ((v20 1) = 0)) : gsY_X11_formula_1_J21 NF f20 g20 v20 w20 = gsY_X11_formula_1_J22 NF f20 g20 v20 w20 := by
  simp only [gsY_X11_formula_1_J21, if_neg h0]
theorem gsY_X11_formula_1_q3 {NF : Nat} {f20 : Nat → Nat → Int32} {g20 : Nat → Int64} {v20 : Nat → Int32} {w20 : Int64} {v42 : Nat → Int32} {f43 : Nat → Nat → Int32} {w44 : Int64} {g45 : Nat → Int64} (h0 : ((v20 1) = 0)) (h1 : gsY_X11_hasBracket_1 NF v20 f20 w20 g20 = 1) (h2 : gsY_X11_wrong_1 NF 2 v20 f20 w20 g20 = (v42, f43, w44, g45)) (h3 : ¬ ((v42 1) = 0)) : gsY_X11_formula_1_J21 NF f20 g20 v20 w20 = (v42, f43, w44, g45) := by
  simp only [gsY_X11_formula_1_J21, if_pos h0, h1, h2, if_neg h3, ite11, ite01, if_true, if_false]
theorem gsY_X11_formula_1_q4 {NF : Nat} {f20 : Nat → Nat → Int32} {g20 : Nat → Int64} {v20 : Nat → Int32} {w20 : Int64} {v42 : Nat → Int32} {f43 : Nat → Nat → Int32} {w44 : Int64} {g45 : Nat → Int64} {v54 : Nat → Int32} {f55 : Nat → Nat → Int32} {w56 : Int64} {g57 : Nat → Int64} (h0 : ((v20 1) = 0)) (h1 : gsY_X11_hasBracket_1 NF v20 f20 w20 g20 = 1) (h2 : gsY_X11_wrong_1 NF 2 v20 f20 w20 g20 = (v42, f43, w44, g45)) (h3 : ((v42 1) = 0)) (h4 : gsY_X11_close_1 NF 0 v42 f43 w44 g45 = (v54, f55, w56, g57)) : gsY_X11_formula_1_J21 NF f20 g20 v20 w20 = (v54, f55, w56, g57) := by
  simp only [gsY_X11_formula_1_J21, if_pos h0, h1, h2, if_pos h3, h4, ite11, ite01, if_true, if_false]
theorem gsY_X11_formula_1_q5 {NF : Nat} {f20 : Nat → Nat → Int32} {g20 : Nat → Int64} {v20 : Nat → Int32} {w20 : Int64} (h0 : ((v20 1) = 0)) (h1 : gsY_X11_hasBracket_1 NF v20 f20 w20 g20 = 0) : gsY_X11_formula_1_J21 NF f20 g20 v20 w20 = gsY_X11_formula_1_J22 NF f20 g20 v20 w20 := by
  simp only [gsY_X11_formula_1_J21, if_pos h0, h1, ite11, ite01, if_true, if_false]
theorem gsY_X11_formula_1_q0 {NF : Nat} {f20 : Nat → Nat → Int32} {g20 : Nat → Int64} {v20 : Nat → Int32} {w20 : Int64} (h0 : ¬ ((v20 1) = 0)) : gsY_X11_formula_1_J22 NF f20 g20 v20 w20 = (v20, f20, w20, g20) := by
  simp only [gsY_X11_formula_1_J22, if_neg h0]
theorem gsY_X11_formula_1_q1 {NF : Nat} {f20 : Nat → Nat → Int32} {g20 : Nat → Int64} {v20 : Nat → Int32} {w20 : Int64} {v25 : Nat → Int32} {f26 : Nat → Nat → Int32} {w27 : Int64} {g28 : Nat → Int64} (h0 : ((v20 1) = 0)) (h1 : gsY_X11_close_1 NF 0 v20 f20 w20 g20 = (v25, f26, w27, g28)) : gsY_X11_formula_1_J22 NF f20 g20 v20 w20 = (v25, f26, w27, g28) := by
  simp only [gsY_X11_formula_1_J22, if_pos h0, h1]
theorem gsY_X11_formula_1_q8 {NF : Nat} {f20 : Nat → Nat → Int32} {g20 : Nat → Int64} {v20 : Nat → Int32} {w20 : Int64} {k20 : Int32 → (Nat → Int32) → (Nat → Nat → Int32) → Int64 → (Nat → Int64) → ((Nat → Int32) × (Nat → Nat → Int32) × (Int64) × (Nat → Int64))}  : gsY_X11_formula_1_J71 NF f20 g20 v20 w20 k20 = k20 0 v20 f20 w20 g20 := by
  simp only [gsY_X11_formula_1_J71]
theorem gsY_X11_formula_1_q9 {NF : Nat} {f20 : Nat → Nat → Int32} {g20 : Nat → Int64} {l1_20 : Int32} {v20 : Nat → Int32} {w20 : Int64} {r68 : Int32} {k20 : Int32 → (Nat → Int32) → (Nat → Nat → Int32) → Int64 → (Nat → Int64) → ((Nat → Int32) × (Nat → Nat → Int32) × (Int64) × (Nat → Int64))} (h0 : (r68 = 0)) : gsY_X11_formula_1_J72 NF f20 g20 l1_20 v20 w20 r68 k20 = gsY_X11_formula_1_J71 NF f20 g20 v20 w20 k20 := by
  simp only [gsY_X11_formula_1_J72, if_pos h0]
theorem gsY_X11_formula_1_q11 {NF : Nat} {f20 : Nat → Nat → Int32} {g20 : Nat → Int64} {l1_20 : Int32} {v20 : Nat → Int32} {w20 : Int64} {r68 : Int32} {r113 : Int32} {k20 : Int32 → (Nat → Int32) → (Nat → Nat → Int32) → Int64 → (Nat → Int64) → ((Nat → Int32) × (Nat → Nat → Int32) × (Int64) × (Nat → Int64))} (h0 : ¬ (r68 = 0)) (h1 : r113 = gsY_X11_tight_1 NF r68 v20 f20 w20 g20) (h2 : ¬ (r113 = 4)) : gsY_X11_formula_1_J72 NF f20 g20 l1_20 v20 w20 r68 k20 = gsY_X11_formula_1_J74 NF f20 g20 l1_20 v20 w20 r68 k20 := by
  subst h1
  simp only [gsY_X11_formula_1_J72, if_neg h0, if_neg h2]
theorem gsY_X11_formula_1_q12 {NF : Nat} {f20 : Nat → Nat → Int32} {g20 : Nat → Int64} {l1_20 : Int32} {v20 : Nat → Int32} {w20 : Int64} {r68 : Int32} {r113 : Int32} {k20 : Int32 → (Nat → Int32) → (Nat → Nat → Int32) → Int64 → (Nat → Int64) → ((Nat → Int32) × (Nat → Nat → Int32) × (Int64) × (Nat → Int64))} (h0 : ¬ (r68 = 0)) (h1 : r113 = gsY_X11_tight_1 NF r68 v20 f20 w20 g20) (h2 : (r113 = 4)) (h3 : gsY_X11_hasRelation_1 NF v20 f20 w20 g20 = 1) : gsY_X11_formula_1_J72 NF f20 g20 l1_20 v20 w20 r68 k20 = gsY_X11_formula_1_J71 NF f20 g20 v20 w20 k20 := by
  subst h1
  simp only [gsY_X11_formula_1_J72, if_neg h0, if_pos h2, h3, ite11, ite01, if_true, if_false]
theorem gsY_X11_formula_1_q13 {NF : Nat} {f20 : Nat → Nat → Int32} {g20 : Nat → Int64} {l1_20 : Int32} {v20 : Nat → Int32} {w20 : Int64} {r68 : Int32} {r113 : Int32} {k20 : Int32 → (Nat → Int32) → (Nat → Nat → Int32) → Int64 → (Nat → Int64) → ((Nat → Int32) × (Nat → Nat → Int32) × (Int64) × (Nat → Int64))} (h0 : ¬ (r68 = 0)) (h1 : r113 = gsY_X11_tight_1 NF r68 v20 f20 w20 g20) (h2 : (r113 = 4)) (h3 : gsY_X11_hasRelation_1 NF v20 f20 w20 g20 = 0) : gsY_X11_formula_1_J72 NF f20 g20 l1_20 v20 w20 r68 k20 = gsY_X11_formula_1_J74 NF f20 g20 l1_20 v20 w20 r68 k20 := by
  subst h1
  simp only [gsY_X11_formula_1_J72, if_neg h0, if_pos h2, h3, ite11, ite01, if_true, if_false]
theorem gsY_X11_formula_1_q10 {NF : Nat} {f20 : Nat → Nat → Int32} {g20 : Nat → Int64} {l1_20 : Int32} {v20 : Nat → Int32} {w20 : Int64} {r68 : Int32} {r75 : Int32} {v78 : Nat → Int32} {f79 : Nat → Nat → Int32} {w80 : Int64} {g81 : Nat → Int64} {f90 : Nat → Nat → Int32} {t91 : Int32} {v94 : Nat → Int32} {f95 : Nat → Nat → Int32} {w96 : Int64} {g97 : Nat → Int64} {v104 : Nat → Int32} {f105 : Nat → Nat → Int32} {w106 : Int64} {g107 : Nat → Int64} {k20 : Int32 → (Nat → Int32) → (Nat → Nat → Int32) → Int64 → (Nat → Int64) → ((Nat → Int32) × (Nat → Nat → Int32) × (Int64) × (Nat → Int64))} (h0 : r75 = gsY_X11_tight_1 NF r68 v20 f20 w20 g20) (h1 : gsY_X11_close_1 NF r75 v20 f20 w20 g20 = (v78, f79, w80, g81)) (h2 : f90 = upd2 f79 6 (upd (f79 6) (v78 10).toNatClampNeg r68)) (h3 : t91 = (v78 10) + 1) (h4 : gsY_X11_token_1 NF (upd v78 10 t91) f90 w80 g81 = (v94, f95, w96, g97)) (h5 : gsY_X11_unit_1 NF v94 f95 w96 g97 = (v104, f105, w106, g107)) : gsY_X11_formula_1_J74 NF f20 g20 l1_20 v20 w20 r68 k20 = k20 l1_20 v104 f105 w106 g107 := by
  subst h0 h2 h3
  simp only [gsY_X11_formula_1_J74, h1, h4, h5]
def gsY_X11_isOwn_1 (NF : Nat) (v : Nat → Int32) (f : Nat → Nat → Int32) (w : Int64) (g : Nat → Int64) : Int32 :=
  let t1 : Int32 := lg_cmp w (7168366 : Int64)
  if t1 = 0 then
    1
  else
    let t3 : Int32 := lg_cmp w (1952541804 : Int64)
    if t3 = 0 then
      1
    else
      let t5 : Int32 := lg_cmp w (2003395685 : Int64)
      if t5 = 0 then
        1
      else
        let t7 : Int32 := lg_cmp w (444301539187 : Int64)
        if t7 = 0 then
          1
        else
          let t9 : Int32 := lg_cmp w (1668243828 : Int64)
          if t9 = 0 then
            1
          else
            let t11 : Int32 := lg_cmp w (1936023917 : Int64)
            if t11 = 0 then
              1
            else
              let t13 : Int32 := lg_cmp w (2003792494 : Int64)
              if t13 = 0 then
                1
              else
                let t15 : Int32 := lg_cmp w (6909036 : Int64)
                if t15 = 0 then
                  1
                else
                  let t17 : Int32 := lg_cmp w (1700885369 : Int64)
                  if t17 = 0 then
                    1
                  else
                    let t19 : Int32 := lg_cmp w (1651469428 : Int64)
                    if t19 = 0 then
                      1
                    else
                      let t21 : Int32 := lg_cmp w (1818848101 : Int64)
                      if t21 = 0 then
                        1
                      else
                        let t23 : Int32 := lg_cmp w (1918986606 : Int64)
                        if t23 = 0 then
                          1
                        else
                          let t25 : Int32 := lg_cmp w (1685217655 : Int64)
                          if t25 = 0 then
                            1
                          else
                            let t27 : Int32 := lg_cmp w (499984590964 : Int64)
                            if t27 = 0 then
                              1
                            else
                              let t29 : Int32 := lg_cmp w (465726042981 : Int64)
                              if t29 = 0 then
                                1
                              else
                                let t31 : Int32 := lg_cmp w (495673373300 : Int64)
                                if t31 = 0 then
                                  1
                                else
                                  let t33 : Int32 := lg_cmp w (1819242087 : Int64)
                                  if t33 = 0 then
                                    1
                                  else
                                    let t35 : Int32 := lg_cmp w (6578553 : Int64)
                                    if t35 = 0 then
                                      1
                                    else
                                      let t37 : Int32 := lg_cmp w (6385252 : Int64)
                                      if t37 = 0 then
                                        1
                                      else
                                        let t39 : Int32 := lg_cmp w (28530 : Int64)
                                        if t39 = 0 then
                                          1
                                        else
                                          let t41 : Int32 := lg_cmp w (7237492 : Int64)
                                          if t41 = 0 then
                                            1
                                          else
                                            0
theorem gsY_X11_isOwn_1_q0 {NF : Nat} {v : Nat → Int32} {f : Nat → Nat → Int32} {w : Int64} {g : Nat → Int64} {t1 : Int32} (h0 : t1 = lg_cmp w (7168366 : Int64)) (h1 : (t1 = 0)) : gsY_X11_isOwn_1 NF v f w g = 1 := by
  subst h0
  simp only [gsY_X11_isOwn_1, if_pos h1]
theorem gsY_X11_isOwn_1_q1 {NF : Nat} {v : Nat → Int32} {f : Nat → Nat → Int32} {w : Int64} {g : Nat → Int64} {t1 : Int32} {t3 : Int32} (h0 : t1 = lg_cmp w (7168366 : Int64)) (h1 : ¬ (t1 = 0)) (h2 : t3 = lg_cmp w (1952541804 : Int64)) (h3 : (t3 = 0)) : gsY_X11_isOwn_1 NF v f w g = 1 := by
  subst h0 h2
  simp only [gsY_X11_isOwn_1, if_neg h1, if_pos h3]
theorem gsY_X11_isOwn_1_q2 {NF : Nat} {v : Nat → Int32} {f : Nat → Nat → Int32} {w : Int64} {g : Nat → Int64} {t1 : Int32} {t3 : Int32} {t5 : Int32} (h0 : t1 = lg_cmp w (7168366 : Int64)) (h1 : ¬ (t1 = 0)) (h2 : t3 = lg_cmp w (1952541804 : Int64)) (h3 : ¬ (t3 = 0)) (h4 : t5 = lg_cmp w (2003395685 : Int64)) (h5 : (t5 = 0)) : gsY_X11_isOwn_1 NF v f w g = 1 := by
  subst h0 h2 h4
  simp only [gsY_X11_isOwn_1, if_neg h1, if_neg h3, if_pos h5]
theorem gsY_X11_isOwn_1_q3 {NF : Nat} {v : Nat → Int32} {f : Nat → Nat → Int32} {w : Int64} {g : Nat → Int64} {t1 : Int32} {t3 : Int32} {t5 : Int32} {t7 : Int32} (h0 : t1 = lg_cmp w (7168366 : Int64)) (h1 : ¬ (t1 = 0)) (h2 : t3 = lg_cmp w (1952541804 : Int64)) (h3 : ¬ (t3 = 0)) (h4 : t5 = lg_cmp w (2003395685 : Int64)) (h5 : ¬ (t5 = 0)) (h6 : t7 = lg_cmp w (444301539187 : Int64)) (h7 : (t7 = 0)) : gsY_X11_isOwn_1 NF v f w g = 1 := by
  subst h0 h2 h4 h6
  simp only [gsY_X11_isOwn_1, if_neg h1, if_neg h3, if_neg h5, if_pos h7]
theorem gsY_X11_isOwn_1_q4 {NF : Nat} {v : Nat → Int32} {f : Nat → Nat → Int32} {w : Int64} {g : Nat → Int64} {t1 : Int32} {t3 : Int32} {t5 : Int32} {t7 : Int32} {t9 : Int32} (h0 : t1 = lg_cmp w (7168366 : Int64)) (h1 : ¬ (t1 = 0)) (h2 : t3 = lg_cmp w (1952541804 : Int64)) (h3 : ¬ (t3 = 0)) (h4 : t5 = lg_cmp w (2003395685 : Int64)) (h5 : ¬ (t5 = 0)) (h6 : t7 = lg_cmp w (444301539187 : Int64)) (h7 : ¬ (t7 = 0)) (h8 : t9 = lg_cmp w (1668243828 : Int64)) (h9 : (t9 = 0)) : gsY_X11_isOwn_1 NF v f w g = 1 := by
  subst h0 h2 h4 h6 h8
  simp only [gsY_X11_isOwn_1, if_neg h1, if_neg h3, if_neg h5, if_neg h7, if_pos h9]
theorem gsY_X11_isOwn_1_q5 {NF : Nat} {v : Nat → Int32} {f : Nat → Nat → Int32} {w : Int64} {g : Nat → Int64} {t1 : Int32} {t3 : Int32} {t5 : Int32} {t7 : Int32} {t9 : Int32} {t11 : Int32} (h0 : t1 = lg_cmp w (7168366 : Int64)) (h1 : ¬ (t1 = 0)) (h2 : t3 = lg_cmp w (1952541804 : Int64)) (h3 : ¬ (t3 = 0)) (h4 : t5 = lg_cmp w (2003395685 : Int64)) (h5 : ¬ (t5 = 0)) (h6 : t7 = lg_cmp w (444301539187 : Int64)) (h7 : ¬ (t7 = 0)) (h8 : t9 = lg_cmp w (1668243828 : Int64)) (h9 : ¬ (t9 = 0)) (h10 : t11 = lg_cmp w (1936023917 : Int64)) (h11 : (t11 = 0)) : gsY_X11_isOwn_1 NF v f w g = 1 := by
  subst h0 h2 h4 h6 h8 h10
  simp only [gsY_X11_isOwn_1, if_neg h1, if_neg h3, if_neg h5, if_neg h7, if_neg h9, if_pos h11]
theorem gsY_X11_isOwn_1_q6 {NF : Nat} {v : Nat → Int32} {f : Nat → Nat → Int32} {w : Int64} {g : Nat → Int64} {t1 : Int32} {t3 : Int32} {t5 : Int32} {t7 : Int32} {t9 : Int32} {t11 : Int32} {t13 : Int32} (h0 : t1 = lg_cmp w (7168366 : Int64)) (h1 : ¬ (t1 = 0)) (h2 : t3 = lg_cmp w (1952541804 : Int64)) (h3 : ¬ (t3 = 0)) (h4 : t5 = lg_cmp w (2003395685 : Int64)) (h5 : ¬ (t5 = 0)) (h6 : t7 = lg_cmp w (444301539187 : Int64)) (h7 : ¬ (t7 = 0)) (h8 : t9 = lg_cmp w (1668243828 : Int64)) (h9 : ¬ (t9 = 0)) (h10 : t11 = lg_cmp w (1936023917 : Int64)) (h11 : ¬ (t11 = 0)) (h12 : t13 = lg_cmp w (2003792494 : Int64)) (h13 : (t13 = 0)) : gsY_X11_isOwn_1 NF v f w g = 1 := by
  subst h0 h2 h4 h6 h8 h10 h12
  simp only [gsY_X11_isOwn_1, if_neg h1, if_neg h3, if_neg h5, if_neg h7, if_neg h9, if_neg h11, if_pos h13]
theorem gsY_X11_isOwn_1_q7 {NF : Nat} {v : Nat → Int32} {f : Nat → Nat → Int32} {w : Int64} {g : Nat → Int64} {t1 : Int32} {t3 : Int32} {t5 : Int32} {t7 : Int32} {t9 : Int32} {t11 : Int32} {t13 : Int32} {t15 : Int32} (h0 : t1 = lg_cmp w (7168366 : Int64)) (h1 : ¬ (t1 = 0)) (h2 : t3 = lg_cmp w (1952541804 : Int64)) (h3 : ¬ (t3 = 0)) (h4 : t5 = lg_cmp w (2003395685 : Int64)) (h5 : ¬ (t5 = 0)) (h6 : t7 = lg_cmp w (444301539187 : Int64)) (h7 : ¬ (t7 = 0)) (h8 : t9 = lg_cmp w (1668243828 : Int64)) (h9 : ¬ (t9 = 0)) (h10 : t11 = lg_cmp w (1936023917 : Int64)) (h11 : ¬ (t11 = 0)) (h12 : t13 = lg_cmp w (2003792494 : Int64)) (h13 : ¬ (t13 = 0)) (h14 : t15 = lg_cmp w (6909036 : Int64)) (h15 : (t15 = 0)) : gsY_X11_isOwn_1 NF v f w g = 1 := by
  subst h0 h2 h4 h6 h8 h10 h12 h14
  simp only [gsY_X11_isOwn_1, if_neg h1, if_neg h3, if_neg h5, if_neg h7, if_neg h9, if_neg h11, if_neg h13, if_pos h15]
theorem gsY_X11_isOwn_1_q8 {NF : Nat} {v : Nat → Int32} {f : Nat → Nat → Int32} {w : Int64} {g : Nat → Int64} {t1 : Int32} {t3 : Int32} {t5 : Int32} {t7 : Int32} {t9 : Int32} {t11 : Int32} {t13 : Int32} {t15 : Int32} {t17 : Int32} (h0 : t1 = lg_cmp w (7168366 : Int64)) (h1 : ¬ (t1 = 0)) (h2 : t3 = lg_cmp w (1952541804 : Int64)) (h3 : ¬ (t3 = 0)) (h4 : t5 = lg_cmp w (2003395685 : Int64)) (h5 : ¬ (t5 = 0)) (h6 : t7 = lg_cmp w (444301539187 : Int64)) (h7 : ¬ (t7 = 0)) (h8 : t9 = lg_cmp w (1668243828 : Int64)) (h9 : ¬ (t9 = 0)) (h10 : t11 = lg_cmp w (1936023917 : Int64)) (h11 : ¬ (t11 = 0)) (h12 : t13 = lg_cmp w (2003792494 : Int64)) (h13 : ¬ (t13 = 0)) (h14 : t15 = lg_cmp w (6909036 : Int64)) (h15 : ¬ (t15 = 0)) (h16 : t17 = lg_cmp w (1700885369 : Int64)) (h17 : (t17 = 0)) : gsY_X11_isOwn_1 NF v f w g = 1 := by
  subst h0 h2 h4 h6 h8 h10 h12 h14 h16
  simp only [gsY_X11_isOwn_1, if_neg h1, if_neg h3, if_neg h5, if_neg h7, if_neg h9, if_neg h11, if_neg h13, if_neg h15, if_pos h17]
theorem gsY_X11_isOwn_1_q9 {NF : Nat} {v : Nat → Int32} {f : Nat → Nat → Int32} {w : Int64} {g : Nat → Int64} {t1 : Int32} {t3 : Int32} {t5 : Int32} {t7 : Int32} {t9 : Int32} {t11 : Int32} {t13 : Int32} {t15 : Int32} {t17 : Int32} {t19 : Int32} (h0 : t1 = lg_cmp w (7168366 : Int64)) (h1 : ¬ (t1 = 0)) (h2 : t3 = lg_cmp w (1952541804 : Int64)) (h3 : ¬ (t3 = 0)) (h4 : t5 = lg_cmp w (2003395685 : Int64)) (h5 : ¬ (t5 = 0)) (h6 : t7 = lg_cmp w (444301539187 : Int64)) (h7 : ¬ (t7 = 0)) (h8 : t9 = lg_cmp w (1668243828 : Int64)) (h9 : ¬ (t9 = 0)) (h10 : t11 = lg_cmp w (1936023917 : Int64)) (h11 : ¬ (t11 = 0)) (h12 : t13 = lg_cmp w (2003792494 : Int64)) (h13 : ¬ (t13 = 0)) (h14 : t15 = lg_cmp w (6909036 : Int64)) (h15 : ¬ (t15 = 0)) (h16 : t17 = lg_cmp w (1700885369 : Int64)) (h17 : ¬ (t17 = 0)) (h18 : t19 = lg_cmp w (1651469428 : Int64)) (h19 : (t19 = 0)) : gsY_X11_isOwn_1 NF v f w g = 1 := by
  subst h0 h2 h4 h6 h8 h10 h12 h14 h16 h18
  simp only [gsY_X11_isOwn_1, if_neg h1, if_neg h3, if_neg h5, if_neg h7, if_neg h9, if_neg h11, if_neg h13, if_neg h15, if_neg h17, if_pos h19]
theorem gsY_X11_isOwn_1_q10 {NF : Nat} {v : Nat → Int32} {f : Nat → Nat → Int32} {w : Int64} {g : Nat → Int64} {t1 : Int32} {t3 : Int32} {t5 : Int32} {t7 : Int32} {t9 : Int32} {t11 : Int32} {t13 : Int32} {t15 : Int32} {t17 : Int32} {t19 : Int32} {t21 : Int32} (h0 : t1 = lg_cmp w (7168366 : Int64)) (h1 : ¬ (t1 = 0)) (h2 : t3 = lg_cmp w (1952541804 : Int64)) (h3 : ¬ (t3 = 0)) (h4 : t5 = lg_cmp w (2003395685 : Int64)) (h5 : ¬ (t5 = 0)) (h6 : t7 = lg_cmp w (444301539187 : Int64)) (h7 : ¬ (t7 = 0)) (h8 : t9 = lg_cmp w (1668243828 : Int64)) (h9 : ¬ (t9 = 0)) (h10 : t11 = lg_cmp w (1936023917 : Int64)) (h11 : ¬ (t11 = 0)) (h12 : t13 = lg_cmp w (2003792494 : Int64)) (h13 : ¬ (t13 = 0)) (h14 : t15 = lg_cmp w (6909036 : Int64)) (h15 : ¬ (t15 = 0)) (h16 : t17 = lg_cmp w (1700885369 : Int64)) (h17 : ¬ (t17 = 0)) (h18 : t19 = lg_cmp w (1651469428 : Int64)) (h19 : ¬ (t19 = 0)) (h20 : t21 = lg_cmp w (1818848101 : Int64)) (h21 : (t21 = 0)) : gsY_X11_isOwn_1 NF v f w g = 1 := by
  subst h0 h2 h4 h6 h8 h10 h12 h14 h16 h18 h20
  simp only [gsY_X11_isOwn_1, if_neg h1, if_neg h3, if_neg h5, if_neg h7, if_neg h9, if_neg h11, if_neg h13, if_neg h15, if_neg h17, if_neg h19, if_pos h21]
theorem gsY_X11_isOwn_1_q11 {NF : Nat} {v : Nat → Int32} {f : Nat → Nat → Int32} {w : Int64} {g : Nat → Int64} {t1 : Int32} {t3 : Int32} {t5 : Int32} {t7 : Int32} {t9 : Int32} {t11 : Int32} {t13 : Int32} {t15 : Int32} {t17 : Int32} {t19 : Int32} {t21 : Int32} {t23 : Int32} (h0 : t1 = lg_cmp w (7168366 : Int64)) (h1 : ¬ (t1 = 0)) (h2 : t3 = lg_cmp w (1952541804 : Int64)) (h3 : ¬ (t3 = 0)) (h4 : t5 = lg_cmp w (2003395685 : Int64)) (h5 : ¬ (t5 = 0)) (h6 : t7 = lg_cmp w (444301539187 : Int64)) (h7 : ¬ (t7 = 0)) (h8 : t9 = lg_cmp w (1668243828 : Int64)) (h9 : ¬ (t9 = 0)) (h10 : t11 = lg_cmp w (1936023917 : Int64)) (h11 : ¬ (t11 = 0)) (h12 : t13 = lg_cmp w (2003792494 : Int64)) (h13 : ¬ (t13 = 0)) (h14 : t15 = lg_cmp w (6909036 : Int64)) (h15 : ¬ (t15 = 0)) (h16 : t17 = lg_cmp w (1700885369 : Int64)) (h17 : ¬ (t17 = 0)) (h18 : t19 = lg_cmp w (1651469428 : Int64)) (h19 : ¬ (t19 = 0)) (h20 : t21 = lg_cmp w (1818848101 : Int64)) (h21 : ¬ (t21 = 0)) (h22 : t23 = lg_cmp w (1918986606 : Int64)) (h23 : (t23 = 0)) : gsY_X11_isOwn_1 NF v f w g = 1 := by
  subst h0 h2 h4 h6 h8 h10 h12 h14 h16 h18 h20 h22
  simp only [gsY_X11_isOwn_1, if_neg h1, if_neg h3, if_neg h5, if_neg h7, if_neg h9, if_neg h11, if_neg h13, if_neg h15, if_neg h17, if_neg h19, if_neg h21, if_pos h23]
theorem gsY_X11_isOwn_1_q12 {NF : Nat} {v : Nat → Int32} {f : Nat → Nat → Int32} {w : Int64} {g : Nat → Int64} {t1 : Int32} {t3 : Int32} {t5 : Int32} {t7 : Int32} {t9 : Int32} {t11 : Int32} {t13 : Int32} {t15 : Int32} {t17 : Int32} {t19 : Int32} {t21 : Int32} {t23 : Int32} {t25 : Int32} (h0 : t1 = lg_cmp w (7168366 : Int64)) (h1 : ¬ (t1 = 0)) (h2 : t3 = lg_cmp w (1952541804 : Int64)) (h3 : ¬ (t3 = 0)) (h4 : t5 = lg_cmp w (2003395685 : Int64)) (h5 : ¬ (t5 = 0)) (h6 : t7 = lg_cmp w (444301539187 : Int64)) (h7 : ¬ (t7 = 0)) (h8 : t9 = lg_cmp w (1668243828 : Int64)) (h9 : ¬ (t9 = 0)) (h10 : t11 = lg_cmp w (1936023917 : Int64)) (h11 : ¬ (t11 = 0)) (h12 : t13 = lg_cmp w (2003792494 : Int64)) (h13 : ¬ (t13 = 0)) (h14 : t15 = lg_cmp w (6909036 : Int64)) (h15 : ¬ (t15 = 0)) (h16 : t17 = lg_cmp w (1700885369 : Int64)) (h17 : ¬ (t17 = 0)) (h18 : t19 = lg_cmp w (1651469428 : Int64)) (h19 : ¬ (t19 = 0)) (h20 : t21 = lg_cmp w (1818848101 : Int64)) (h21 : ¬ (t21 = 0)) (h22 : t23 = lg_cmp w (1918986606 : Int64)) (h23 : ¬ (t23 = 0)) (h24 : t25 = lg_cmp w (1685217655 : Int64)) (h25 : (t25 = 0)) : gsY_X11_isOwn_1 NF v f w g = 1 := by
  subst h0 h2 h4 h6 h8 h10 h12 h14 h16 h18 h20 h22 h24
  simp only [gsY_X11_isOwn_1, if_neg h1, if_neg h3, if_neg h5, if_neg h7, if_neg h9, if_neg h11, if_neg h13, if_neg h15, if_neg h17, if_neg h19, if_neg h21, if_neg h23, if_pos h25]
theorem gsY_X11_isOwn_1_q13 {NF : Nat} {v : Nat → Int32} {f : Nat → Nat → Int32} {w : Int64} {g : Nat → Int64} {t1 : Int32} {t3 : Int32} {t5 : Int32} {t7 : Int32} {t9 : Int32} {t11 : Int32} {t13 : Int32} {t15 : Int32} {t17 : Int32} {t19 : Int32} {t21 : Int32} {t23 : Int32} {t25 : Int32} {t27 : Int32} (h0 : t1 = lg_cmp w (7168366 : Int64)) (h1 : ¬ (t1 = 0)) (h2 : t3 = lg_cmp w (1952541804 : Int64)) (h3 : ¬ (t3 = 0)) (h4 : t5 = lg_cmp w (2003395685 : Int64)) (h5 : ¬ (t5 = 0)) (h6 : t7 = lg_cmp w (444301539187 : Int64)) (h7 : ¬ (t7 = 0)) (h8 : t9 = lg_cmp w (1668243828 : Int64)) (h9 : ¬ (t9 = 0)) (h10 : t11 = lg_cmp w (1936023917 : Int64)) (h11 : ¬ (t11 = 0)) (h12 : t13 = lg_cmp w (2003792494 : Int64)) (h13 : ¬ (t13 = 0)) (h14 : t15 = lg_cmp w (6909036 : Int64)) (h15 : ¬ (t15 = 0)) (h16 : t17 = lg_cmp w (1700885369 : Int64)) (h17 : ¬ (t17 = 0)) (h18 : t19 = lg_cmp w (1651469428 : Int64)) (h19 : ¬ (t19 = 0)) (h20 : t21 = lg_cmp w (1818848101 : Int64)) (h21 : ¬ (t21 = 0)) (h22 : t23 = lg_cmp w (1918986606 : Int64)) (h23 : ¬ (t23 = 0)) (h24 : t25 = lg_cmp w (1685217655 : Int64)) (h25 : ¬ (t25 = 0)) (h26 : t27 = lg_cmp w (499984590964 : Int64)) (h27 : (t27 = 0)) : gsY_X11_isOwn_1 NF v f w g = 1 := by
  subst h0 h2 h4 h6 h8 h10 h12 h14 h16 h18 h20 h22 h24 h26
  simp only [gsY_X11_isOwn_1, if_neg h1, if_neg h3, if_neg h5, if_neg h7, if_neg h9, if_neg h11, if_neg h13, if_neg h15, if_neg h17, if_neg h19, if_neg h21, if_neg h23, if_neg h25, if_pos h27]
theorem gsY_X11_isOwn_1_q14 {NF : Nat} {v : Nat → Int32} {f : Nat → Nat → Int32} {w : Int64} {g : Nat → Int64} {t1 : Int32} {t3 : Int32} {t5 : Int32} {t7 : Int32} {t9 : Int32} {t11 : Int32} {t13 : Int32} {t15 : Int32} {t17 : Int32} {t19 : Int32} {t21 : Int32} {t23 : Int32} {t25 : Int32} {t27 : Int32} {t29 : Int32} (h0 : t1 = lg_cmp w (7168366 : Int64)) (h1 : ¬ (t1 = 0)) (h2 : t3 = lg_cmp w (1952541804 : Int64)) (h3 : ¬ (t3 = 0)) (h4 : t5 = lg_cmp w (2003395685 : Int64)) (h5 : ¬ (t5 = 0)) (h6 : t7 = lg_cmp w (444301539187 : Int64)) (h7 : ¬ (t7 = 0)) (h8 : t9 = lg_cmp w (1668243828 : Int64)) (h9 : ¬ (t9 = 0)) (h10 : t11 = lg_cmp w (1936023917 : Int64)) (h11 : ¬ (t11 = 0)) (h12 : t13 = lg_cmp w (2003792494 : Int64)) (h13 : ¬ (t13 = 0)) (h14 : t15 = lg_cmp w (6909036 : Int64)) (h15 : ¬ (t15 = 0)) (h16 : t17 = lg_cmp w (1700885369 : Int64)) (h17 : ¬ (t17 = 0)) (h18 : t19 = lg_cmp w (1651469428 : Int64)) (h19 : ¬ (t19 = 0)) (h20 : t21 = lg_cmp w (1818848101 : Int64)) (h21 : ¬ (t21 = 0)) (h22 : t23 = lg_cmp w (1918986606 : Int64)) (h23 : ¬ (t23 = 0)) (h24 : t25 = lg_cmp w (1685217655 : Int64)) (h25 : ¬ (t25 = 0)) (h26 : t27 = lg_cmp w (499984590964 : Int64)) (h27 : ¬ (t27 = 0)) (h28 : t29 = lg_cmp w (465726042981 : Int64)) (h29 : (t29 = 0)) : gsY_X11_isOwn_1 NF v f w g = 1 := by
  subst h0 h2 h4 h6 h8 h10 h12 h14 h16 h18 h20 h22 h24 h26 h28
  simp only [gsY_X11_isOwn_1, if_neg h1, if_neg h3, if_neg h5, if_neg h7, if_neg h9, if_neg h11, if_neg h13, if_neg h15, if_neg h17, if_neg h19, if_neg h21, if_neg h23, if_neg h25, if_neg h27, if_pos h29]
theorem gsY_X11_isOwn_1_q15 {NF : Nat} {v : Nat → Int32} {f : Nat → Nat → Int32} {w : Int64} {g : Nat → Int64} {t1 : Int32} {t3 : Int32} {t5 : Int32} {t7 : Int32} {t9 : Int32} {t11 : Int32} {t13 : Int32} {t15 : Int32} {t17 : Int32} {t19 : Int32} {t21 : Int32} {t23 : Int32} {t25 : Int32} {t27 : Int32} {t29 : Int32} {t31 : Int32} (h0 : t1 = lg_cmp w (7168366 : Int64)) (h1 : ¬ (t1 = 0)) (h2 : t3 = lg_cmp w (1952541804 : Int64)) (h3 : ¬ (t3 = 0)) (h4 : t5 = lg_cmp w (2003395685 : Int64)) (h5 : ¬ (t5 = 0)) (h6 : t7 = lg_cmp w (444301539187 : Int64)) (h7 : ¬ (t7 = 0)) (h8 : t9 = lg_cmp w (1668243828 : Int64)) (h9 : ¬ (t9 = 0)) (h10 : t11 = lg_cmp w (1936023917 : Int64)) (h11 : ¬ (t11 = 0)) (h12 : t13 = lg_cmp w (2003792494 : Int64)) (h13 : ¬ (t13 = 0)) (h14 : t15 = lg_cmp w (6909036 : Int64)) (h15 : ¬ (t15 = 0)) (h16 : t17 = lg_cmp w (1700885369 : Int64)) (h17 : ¬ (t17 = 0)) (h18 : t19 = lg_cmp w (1651469428 : Int64)) (h19 : ¬ (t19 = 0)) (h20 : t21 = lg_cmp w (1818848101 : Int64)) (h21 : ¬ (t21 = 0)) (h22 : t23 = lg_cmp w (1918986606 : Int64)) (h23 : ¬ (t23 = 0)) (h24 : t25 = lg_cmp w (1685217655 : Int64)) (h25 : ¬ (t25 = 0)) (h26 : t27 = lg_cmp w (499984590964 : Int64)) (h27 : ¬ (t27 = 0)) (h28 : t29 = lg_cmp w (465726042981 : Int64)) (h29 : ¬ (t29 = 0)) (h30 : t31 = lg_cmp w (495673373300 : Int64)) (h31 : (t31 = 0)) : gsY_X11_isOwn_1 NF v f w g = 1 := by
  subst h0 h2 h4 h6 h8 h10 h12 h14 h16 h18 h20 h22 h24 h26 h28 h30
  simp only [gsY_X11_isOwn_1, if_neg h1, if_neg h3, if_neg h5, if_neg h7, if_neg h9, if_neg h11, if_neg h13, if_neg h15, if_neg h17, if_neg h19, if_neg h21, if_neg h23, if_neg h25, if_neg h27, if_neg h29, if_pos h31]
theorem gsY_X11_isOwn_1_q16 {NF : Nat} {v : Nat → Int32} {f : Nat → Nat → Int32} {w : Int64} {g : Nat → Int64} {t1 : Int32} {t3 : Int32} {t5 : Int32} {t7 : Int32} {t9 : Int32} {t11 : Int32} {t13 : Int32} {t15 : Int32} {t17 : Int32} {t19 : Int32} {t21 : Int32} {t23 : Int32} {t25 : Int32} {t27 : Int32} {t29 : Int32} {t31 : Int32} {t33 : Int32} (h0 : t1 = lg_cmp w (7168366 : Int64)) (h1 : ¬ (t1 = 0)) (h2 : t3 = lg_cmp w (1952541804 : Int64)) (h3 : ¬ (t3 = 0)) (h4 : t5 = lg_cmp w (2003395685 : Int64)) (h5 : ¬ (t5 = 0)) (h6 : t7 = lg_cmp w (444301539187 : Int64)) (h7 : ¬ (t7 = 0)) (h8 : t9 = lg_cmp w (1668243828 : Int64)) (h9 : ¬ (t9 = 0)) (h10 : t11 = lg_cmp w (1936023917 : Int64)) (h11 : ¬ (t11 = 0)) (h12 : t13 = lg_cmp w (2003792494 : Int64)) (h13 : ¬ (t13 = 0)) (h14 : t15 = lg_cmp w (6909036 : Int64)) (h15 : ¬ (t15 = 0)) (h16 : t17 = lg_cmp w (1700885369 : Int64)) (h17 : ¬ (t17 = 0)) (h18 : t19 = lg_cmp w (1651469428 : Int64)) (h19 : ¬ (t19 = 0)) (h20 : t21 = lg_cmp w (1818848101 : Int64)) (h21 : ¬ (t21 = 0)) (h22 : t23 = lg_cmp w (1918986606 : Int64)) (h23 : ¬ (t23 = 0)) (h24 : t25 = lg_cmp w (1685217655 : Int64)) (h25 : ¬ (t25 = 0)) (h26 : t27 = lg_cmp w (499984590964 : Int64)) (h27 : ¬ (t27 = 0)) (h28 : t29 = lg_cmp w (465726042981 : Int64)) (h29 : ¬ (t29 = 0)) (h30 : t31 = lg_cmp w (495673373300 : Int64)) (h31 : ¬ (t31 = 0)) (h32 : t33 = lg_cmp w (1819242087 : Int64)) (h33 : (t33 = 0)) : gsY_X11_isOwn_1 NF v f w g = 1 := by
  subst h0 h2 h4 h6 h8 h10 h12 h14 h16 h18 h20 h22 h24 h26 h28 h30 h32
  simp only [gsY_X11_isOwn_1, if_neg h1, if_neg h3, if_neg h5, if_neg h7, if_neg h9, if_neg h11, if_neg h13, if_neg h15, if_neg h17, if_neg h19, if_neg h21, if_neg h23, if_neg h25, if_neg h27, if_neg h29, if_neg h31, if_pos h33]
theorem gsY_X11_isOwn_1_q17 {NF : Nat} {v : Nat → Int32} {f : Nat → Nat → Int32} {w : Int64} {g : Nat → Int64} {t1 : Int32} {t3 : Int32} {t5 : Int32} {t7 : Int32} {t9 : Int32} {t11 : Int32} {t13 : Int32} {t15 : Int32} {t17 : Int32} {t19 : Int32} {t21 : Int32} {t23 : Int32} {t25 : Int32} {t27 : Int32} {t29 : Int32} {t31 : Int32} {t33 : Int32} {t35 : Int32} (h0 : t1 = lg_cmp w (7168366 : Int64)) (h1 : ¬ (t1 = 0)) (h2 : t3 = lg_cmp w (1952541804 : Int64)) (h3 : ¬ (t3 = 0)) (h4 : t5 = lg_cmp w (2003395685 : Int64)) (h5 : ¬ (t5 = 0)) (h6 : t7 = lg_cmp w (444301539187 : Int64)) (h7 : ¬ (t7 = 0)) (h8 : t9 = lg_cmp w (1668243828 : Int64)) (h9 : ¬ (t9 = 0)) (h10 : t11 = lg_cmp w (1936023917 : Int64)) (h11 : ¬ (t11 = 0)) (h12 : t13 = lg_cmp w (2003792494 : Int64)) (h13 : ¬ (t13 = 0)) (h14 : t15 = lg_cmp w (6909036 : Int64)) (h15 : ¬ (t15 = 0)) (h16 : t17 = lg_cmp w (1700885369 : Int64)) (h17 : ¬ (t17 = 0)) (h18 : t19 = lg_cmp w (1651469428 : Int64)) (h19 : ¬ (t19 = 0)) (h20 : t21 = lg_cmp w (1818848101 : Int64)) (h21 : ¬ (t21 = 0)) (h22 : t23 = lg_cmp w (1918986606 : Int64)) (h23 : ¬ (t23 = 0)) (h24 : t25 = lg_cmp w (1685217655 : Int64)) (h25 : ¬ (t25 = 0)) (h26 : t27 = lg_cmp w (499984590964 : Int64)) (h27 : ¬ (t27 = 0)) (h28 : t29 = lg_cmp w (465726042981 : Int64)) (h29 : ¬ (t29 = 0)) (h30 : t31 = lg_cmp w (495673373300 : Int64)) (h31 : ¬ (t31 = 0)) (h32 : t33 = lg_cmp w (1819242087 : Int64)) (h33 : ¬ (t33 = 0)) (h34 : t35 = lg_cmp w (6578553 : Int64)) (h35 : (t35 = 0)) : gsY_X11_isOwn_1 NF v f w g = 1 := by
  subst h0 h2 h4 h6 h8 h10 h12 h14 h16 h18 h20 h22 h24 h26 h28 h30 h32 h34
  simp only [gsY_X11_isOwn_1, if_neg h1, if_neg h3, if_neg h5, if_neg h7, if_neg h9, if_neg h11, if_neg h13, if_neg h15, if_neg h17, if_neg h19, if_neg h21, if_neg h23, if_neg h25, if_neg h27, if_neg h29, if_neg h31, if_neg h33, if_pos h35]
theorem gsY_X11_isOwn_1_q18 {NF : Nat} {v : Nat → Int32} {f : Nat → Nat → Int32} {w : Int64} {g : Nat → Int64} {t1 : Int32} {t3 : Int32} {t5 : Int32} {t7 : Int32} {t9 : Int32} {t11 : Int32} {t13 : Int32} {t15 : Int32} {t17 : Int32} {t19 : Int32} {t21 : Int32} {t23 : Int32} {t25 : Int32} {t27 : Int32} {t29 : Int32} {t31 : Int32} {t33 : Int32} {t35 : Int32} {t37 : Int32} (h0 : t1 = lg_cmp w (7168366 : Int64)) (h1 : ¬ (t1 = 0)) (h2 : t3 = lg_cmp w (1952541804 : Int64)) (h3 : ¬ (t3 = 0)) (h4 : t5 = lg_cmp w (2003395685 : Int64)) (h5 : ¬ (t5 = 0)) (h6 : t7 = lg_cmp w (444301539187 : Int64)) (h7 : ¬ (t7 = 0)) (h8 : t9 = lg_cmp w (1668243828 : Int64)) (h9 : ¬ (t9 = 0)) (h10 : t11 = lg_cmp w (1936023917 : Int64)) (h11 : ¬ (t11 = 0)) (h12 : t13 = lg_cmp w (2003792494 : Int64)) (h13 : ¬ (t13 = 0)) (h14 : t15 = lg_cmp w (6909036 : Int64)) (h15 : ¬ (t15 = 0)) (h16 : t17 = lg_cmp w (1700885369 : Int64)) (h17 : ¬ (t17 = 0)) (h18 : t19 = lg_cmp w (1651469428 : Int64)) (h19 : ¬ (t19 = 0)) (h20 : t21 = lg_cmp w (1818848101 : Int64)) (h21 : ¬ (t21 = 0)) (h22 : t23 = lg_cmp w (1918986606 : Int64)) (h23 : ¬ (t23 = 0)) (h24 : t25 = lg_cmp w (1685217655 : Int64)) (h25 : ¬ (t25 = 0)) (h26 : t27 = lg_cmp w (499984590964 : Int64)) (h27 : ¬ (t27 = 0)) (h28 : t29 = lg_cmp w (465726042981 : Int64)) (h29 : ¬ (t29 = 0)) (h30 : t31 = lg_cmp w (495673373300 : Int64)) (h31 : ¬ (t31 = 0)) (h32 : t33 = lg_cmp w (1819242087 : Int64)) (h33 : ¬ (t33 = 0)) (h34 : t35 = lg_cmp w (6578553 : Int64)) (h35 : ¬ (t35 = 0)) (h36 : t37 = lg_cmp w (6385252 : Int64)) (h37 : (t37 = 0)) : gsY_X11_isOwn_1 NF v f w g = 1 := by
  subst h0 h2 h4 h6 h8 h10 h12 h14 h16 h18 h20 h22 h24 h26 h28 h30 h32 h34 h36
  simp only [gsY_X11_isOwn_1, if_neg h1, if_neg h3, if_neg h5, if_neg h7, if_neg h9, if_neg h11, if_neg h13, if_neg h15, if_neg h17, if_neg h19, if_neg h21, if_neg h23, if_neg h25, if_neg h27, if_neg h29, if_neg h31, if_neg h33, if_neg h35, if_pos h37]
theorem gsY_X11_isOwn_1_q19 {NF : Nat} {v : Nat → Int32} {f : Nat → Nat → Int32} {w : Int64} {g : Nat → Int64} {t1 : Int32} {t3 : Int32} {t5 : Int32} {t7 : Int32} {t9 : Int32} {t11 : Int32} {t13 : Int32} {t15 : Int32} {t17 : Int32} {t19 : Int32} {t21 : Int32} {t23 : Int32} {t25 : Int32} {t27 : Int32} {t29 : Int32} {t31 : Int32} {t33 : Int32} {t35 : Int32} {t37 : Int32} {t39 : Int32} (h0 : t1 = lg_cmp w (7168366 : Int64)) (h1 : ¬ (t1 = 0)) (h2 : t3 = lg_cmp w (1952541804 : Int64)) (h3 : ¬ (t3 = 0)) (h4 : t5 = lg_cmp w (2003395685 : Int64)) (h5 : ¬ (t5 = 0)) (h6 : t7 = lg_cmp w (444301539187 : Int64)) (h7 : ¬ (t7 = 0)) (h8 : t9 = lg_cmp w (1668243828 : Int64)) (h9 : ¬ (t9 = 0)) (h10 : t11 = lg_cmp w (1936023917 : Int64)) (h11 : ¬ (t11 = 0)) (h12 : t13 = lg_cmp w (2003792494 : Int64)) (h13 : ¬ (t13 = 0)) (h14 : t15 = lg_cmp w (6909036 : Int64)) (h15 : ¬ (t15 = 0)) (h16 : t17 = lg_cmp w (1700885369 : Int64)) (h17 : ¬ (t17 = 0)) (h18 : t19 = lg_cmp w (1651469428 : Int64)) (h19 : ¬ (t19 = 0)) (h20 : t21 = lg_cmp w (1818848101 : Int64)) (h21 : ¬ (t21 = 0)) (h22 : t23 = lg_cmp w (1918986606 : Int64)) (h23 : ¬ (t23 = 0)) (h24 : t25 = lg_cmp w (1685217655 : Int64)) (h25 : ¬ (t25 = 0)) (h26 : t27 = lg_cmp w (499984590964 : Int64)) (h27 : ¬ (t27 = 0)) (h28 : t29 = lg_cmp w (465726042981 : Int64)) (h29 : ¬ (t29 = 0)) (h30 : t31 = lg_cmp w (495673373300 : Int64)) (h31 : ¬ (t31 = 0)) (h32 : t33 = lg_cmp w (1819242087 : Int64)) (h33 : ¬ (t33 = 0)) (h34 : t35 = lg_cmp w (6578553 : Int64)) (h35 : ¬ (t35 = 0)) (h36 : t37 = lg_cmp w (6385252 : Int64)) (h37 : ¬ (t37 = 0)) (h38 : t39 = lg_cmp w (28530 : Int64)) (h39 : (t39 = 0)) : gsY_X11_isOwn_1 NF v f w g = 1 := by
  subst h0 h2 h4 h6 h8 h10 h12 h14 h16 h18 h20 h22 h24 h26 h28 h30 h32 h34 h36 h38
  simp only [gsY_X11_isOwn_1, if_neg h1, if_neg h3, if_neg h5, if_neg h7, if_neg h9, if_neg h11, if_neg h13, if_neg h15, if_neg h17, if_neg h19, if_neg h21, if_neg h23, if_neg h25, if_neg h27, if_neg h29, if_neg h31, if_neg h33, if_neg h35, if_neg h37, if_pos h39]
theorem gsY_X11_isOwn_1_q20 {NF : Nat} {v : Nat → Int32} {f : Nat → Nat → Int32} {w : Int64} {g : Nat → Int64} {t1 : Int32} {t3 : Int32} {t5 : Int32} {t7 : Int32} {t9 : Int32} {t11 : Int32} {t13 : Int32} {t15 : Int32} {t17 : Int32} {t19 : Int32} {t21 : Int32} {t23 : Int32} {t25 : Int32} {t27 : Int32} {t29 : Int32} {t31 : Int32} {t33 : Int32} {t35 : Int32} {t37 : Int32} {t39 : Int32} {t41 : Int32} (h0 : t1 = lg_cmp w (7168366 : Int64)) (h1 : ¬ (t1 = 0)) (h2 : t3 = lg_cmp w (1952541804 : Int64)) (h3 : ¬ (t3 = 0)) (h4 : t5 = lg_cmp w (2003395685 : Int64)) (h5 : ¬ (t5 = 0)) (h6 : t7 = lg_cmp w (444301539187 : Int64)) (h7 : ¬ (t7 = 0)) (h8 : t9 = lg_cmp w (1668243828 : Int64)) (h9 : ¬ (t9 = 0)) (h10 : t11 = lg_cmp w (1936023917 : Int64)) (h11 : ¬ (t11 = 0)) (h12 : t13 = lg_cmp w (2003792494 : Int64)) (h13 : ¬ (t13 = 0)) (h14 : t15 = lg_cmp w (6909036 : Int64)) (h15 : ¬ (t15 = 0)) (h16 : t17 = lg_cmp w (1700885369 : Int64)) (h17 : ¬ (t17 = 0)) (h18 : t19 = lg_cmp w (1651469428 : Int64)) (h19 : ¬ (t19 = 0)) (h20 : t21 = lg_cmp w (1818848101 : Int64)) (h21 : ¬ (t21 = 0)) (h22 : t23 = lg_cmp w (1918986606 : Int64)) (h23 : ¬ (t23 = 0)) (h24 : t25 = lg_cmp w (1685217655 : Int64)) (h25 : ¬ (t25 = 0)) (h26 : t27 = lg_cmp w (499984590964 : Int64)) (h27 : ¬ (t27 = 0)) (h28 : t29 = lg_cmp w (465726042981 : Int64)) (h29 : ¬ (t29 = 0)) (h30 : t31 = lg_cmp w (495673373300 : Int64)) (h31 : ¬ (t31 = 0)) (h32 : t33 = lg_cmp w (1819242087 : Int64)) (h33 : ¬ (t33 = 0)) (h34 : t35 = lg_cmp w (6578553 : Int64)) (h35 : ¬ (t35 = 0)) (h36 : t37 = lg_cmp w (6385252 : Int64)) (h37 : ¬ (t37 = 0)) (h38 : t39 = lg_cmp w (28530 : Int64)) (h39 : ¬ (t39 = 0)) (h40 : t41 = lg_cmp w (7237492 : Int64)) (h41 : ¬ (t41 = 0)) : gsY_X11_isOwn_1 NF v f w g = 0 := by
  subst h0 h2 h4 h6 h8 h10 h12 h14 h16 h18 h20 h22 h24 h26 h28 h30 h32 h34 h36 h38 h40
  simp only [gsY_X11_isOwn_1, if_neg h1, if_neg h3, if_neg h5, if_neg h7, if_neg h9, if_neg h11, if_neg h13, if_neg h15, if_neg h17, if_neg h19, if_neg h21, if_neg h23, if_neg h25, if_neg h27, if_neg h29, if_neg h31, if_neg h33, if_neg h35, if_neg h37, if_neg h39, if_neg h41]
theorem gsY_X11_isOwn_1_q21 {NF : Nat} {v : Nat → Int32} {f : Nat → Nat → Int32} {w : Int64} {g : Nat → Int64} {t1 : Int32} {t3 : Int32} {t5 : Int32} {t7 : Int32} {t9 : Int32} {t11 : Int32} {t13 : Int32} {t15 : Int32} {t17 : Int32} {t19 : Int32} {t21 : Int32} {t23 : Int32} {t25 : Int32} {t27 : Int32} {t29 : Int32} {t31 : Int32} {t33 : Int32} {t35 : Int32} {t37 : Int32} {t39 : Int32} {t41 : Int32} (h0 : t1 = lg_cmp w (7168366 : Int64)) (h1 : ¬ (t1 = 0)) (h2 : t3 = lg_cmp w (1952541804 : Int64)) (h3 : ¬ (t3 = 0)) (h4 : t5 = lg_cmp w (2003395685 : Int64)) (h5 : ¬ (t5 = 0)) (h6 : t7 = lg_cmp w (444301539187 : Int64)) (h7 : ¬ (t7 = 0)) (h8 : t9 = lg_cmp w (1668243828 : Int64)) (h9 : ¬ (t9 = 0)) (h10 : t11 = lg_cmp w (1936023917 : Int64)) (h11 : ¬ (t11 = 0)) (h12 : t13 = lg_cmp w (2003792494 : Int64)) (h13 : ¬ (t13 = 0)) (h14 : t15 = lg_cmp w (6909036 : Int64)) (h15 : ¬ (t15 = 0)) (h16 : t17 = lg_cmp w (1700885369 : Int64)) (h17 : ¬ (t17 = 0)) (h18 : t19 = lg_cmp w (1651469428 : Int64)) (h19 : ¬ (t19 = 0)) (h20 : t21 = lg_cmp w (1818848101 : Int64)) (h21 : ¬ (t21 = 0)) (h22 : t23 = lg_cmp w (1918986606 : Int64)) (h23 : ¬ (t23 = 0)) (h24 : t25 = lg_cmp w (1685217655 : Int64)) (h25 : ¬ (t25 = 0)) (h26 : t27 = lg_cmp w (499984590964 : Int64)) (h27 : ¬ (t27 = 0)) (h28 : t29 = lg_cmp w (465726042981 : Int64)) (h29 : ¬ (t29 = 0)) (h30 : t31 = lg_cmp w (495673373300 : Int64)) (h31 : ¬ (t31 = 0)) (h32 : t33 = lg_cmp w (1819242087 : Int64)) (h33 : ¬ (t33 = 0)) (h34 : t35 = lg_cmp w (6578553 : Int64)) (h35 : ¬ (t35 = 0)) (h36 : t37 = lg_cmp w (6385252 : Int64)) (h37 : ¬ (t37 = 0)) (h38 : t39 = lg_cmp w (28530 : Int64)) (h39 : ¬ (t39 = 0)) (h40 : t41 = lg_cmp w (7237492 : Int64)) (h41 : (t41 = 0)) : gsY_X11_isOwn_1 NF v f w g = 1 := by
  subst h0 h2 h4 h6 h8 h10 h12 h14 h16 h18 h20 h22 h24 h26 h28 h30 h32 h34 h36 h38 h40
  simp only [gsY_X11_isOwn_1, if_neg h1, if_neg h3, if_neg h5, if_neg h7, if_neg h9, if_neg h11, if_neg h13, if_neg h15, if_neg h17, if_neg h19, if_neg h21, if_neg h23, if_neg h25, if_neg h27, if_neg h29, if_neg h31, if_neg h33, if_neg h35, if_neg h37, if_neg h39, if_pos h41]
