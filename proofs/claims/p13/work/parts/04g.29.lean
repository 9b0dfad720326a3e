def gsY_X11_wrong_1 (NF : Nat) (p1 : Int32) (v : Nat → Int32) (f : Nat → Nat → Int32) (w : Int64) (g : Nat → Int64) : (Nat → Int32) × (Nat → Nat → Int32) × (Int64) × (Nat → Int64) :=
  if (v 1) ≤ 0 then
    if (v 5) = 3 then
      ((upd (upd v 1 1) 2 (v 6)), f, w, g)
    else
      ((upd (upd v 1 p1) 2 (v 6)), f, w, g)
  else
    (v, f, w, g)
theorem gsY_X11_wrong_1_q0 {NF : Nat} {p1 : Int32} {v : Nat → Int32} {f : Nat → Nat → Int32} {w : Int64} {g : Nat → Int64} (h0 : ((v 1) ≤ 0)) (h1 : ¬ ((v 5) = 3)) : gsY_X11_wrong_1 NF p1 v f w g = ((upd (upd v 1 p1) 2 (v 6)), f, w, g) := by
  simp only [gsY_X11_wrong_1, if_pos h0, if_neg h1]
theorem gsY_X11_wrong_1_q1 {NF : Nat} {p1 : Int32} {v : Nat → Int32} {f : Nat → Nat → Int32} {w : Int64} {g : Nat → Int64} (h0 : ((v 1) ≤ 0)) (h1 : ((v 5) = 3)) : gsY_X11_wrong_1 NF p1 v f w g = ((upd (upd v 1 1) 2 (v 6)), f, w, g) := by
  simp only [gsY_X11_wrong_1, if_pos h0, if_pos h1]
theorem gsY_X11_wrong_1_q2 {NF : Nat} {p1 : Int32} {v : Nat → Int32} {f : Nat → Nat → Int32} {w : Int64} {g : Nat → Int64} (h0 : ¬ ((v 1) ≤ 0)) : gsY_X11_wrong_1 NF p1 v f w g = (v, f, w, g) := by
  simp only [gsY_X11_wrong_1, if_neg h0]
def gsY_X11_isWord_1 (NF : Nat) (j1 : Int64) (v : Nat → Int32) (f : Nat → Nat → Int32) (w : Int64) (g : Nat → Int64) : Int32 :=
  if (v 5) = 1 then
    let t2 : Int32 := lg_cmp w j1
    if t2 = 0 then
      1
    else
      0
  else
    0
theorem gsY_X11_isWord_1_q0 {NF : Nat} {j1 : Int64} {v : Nat → Int32} {f : Nat → Nat → Int32} {w : Int64} {g : Nat → Int64} (h0 : ¬ ((v 5) = 1)) : gsY_X11_isWord_1 NF j1 v f w g = 0 := by
  simp only [gsY_X11_isWord_1, if_neg h0]
theorem gsY_X11_isWord_1_q1 {NF : Nat} {j1 : Int64} {v : Nat → Int32} {f : Nat → Nat → Int32} {w : Int64} {g : Nat → Int64} {t2 : Int32} (h0 : ((v 5) = 1)) (h1 : t2 = lg_cmp w j1) (h2 : ¬ (t2 = 0)) : gsY_X11_isWord_1 NF j1 v f w g = 0 := by
  subst h1
  simp only [gsY_X11_isWord_1, if_pos h0, if_neg h2]
theorem gsY_X11_isWord_1_q2 {NF : Nat} {j1 : Int64} {v : Nat → Int32} {f : Nat → Nat → Int32} {w : Int64} {g : Nat → Int64} {t2 : Int32} (h0 : ((v 5) = 1)) (h1 : t2 = lg_cmp w j1) (h2 : (t2 = 0)) : gsY_X11_isWord_1 NF j1 v f w g = 1 := by
  subst h1
  simp only [gsY_X11_isWord_1, if_pos h0, if_pos h2]
def gsY_X11_want_1 (NF : Nat) (j1 : Int64) (v : Nat → Int32) (f : Nat → Nat → Int32) (w : Int64) (g : Nat → Int64) : (Nat → Int32) × (Nat → Nat → Int32) × (Int64) × (Nat → Int64) :=
  if (v 1) ≤ 0 then
    if gsY_X11_isWord_1 NF j1 v f w g = 1 then
      match gsY_X11_token_1 NF v f w g with
      | (v6, f7, w8, g9) =>
        (v6, f7, w8, g9)
    else
      match gsY_X11_wrong_1 NF 2 v f w g with
      | (v16, f17, w18, g19) =>
        (v16, f17, w18, g19)
  else
    (v, f, w, g)
theorem gsY_X11_want_1_q0 {NF : Nat} {j1 : Int64} {v : Nat → Int32} {f : Nat → Nat → Int32} {w : Int64} {g : Nat → Int64} {v6 : Nat → Int32} {f7 : Nat → Nat → Int32} {w8 : Int64} {g9 : Nat → Int64} (h0 : ((v 1) ≤ 0)) (h1 : gsY_X11_isWord_1 NF j1 v f w g = 1) (h2 : gsY_X11_token_1 NF v f w g = (v6, f7, w8, g9)) : gsY_X11_want_1 NF j1 v f w g = (v6, f7, w8, g9) := by
  simp only [gsY_X11_want_1, if_pos h0, h1, h2, ite11, ite01, if_true, if_false]
theorem gsY_X11_want_1_q1 {NF : Nat} {j1 : Int64} {v : Nat → Int32} {f : Nat → Nat → Int32} {w : Int64} {g : Nat → Int64} {v16 : Nat → Int32} {f17 : Nat → Nat → Int32} {w18 : Int64} {g19 : Nat → Int64} (h0 : ((v 1) ≤ 0)) (h1 : gsY_X11_isWord_1 NF j1 v f w g = 0) (h2 : gsY_X11_wrong_1 NF 2 v f w g = (v16, f17, w18, g19)) : gsY_X11_want_1 NF j1 v f w g = (v16, f17, w18, g19) := by
  simp only [gsY_X11_want_1, if_pos h0, h1, h2, ite11, ite01, if_true, if_false]
theorem gsY_X11_want_1_q2 {NF : Nat} {j1 : Int64} {v : Nat → Int32} {f : Nat → Nat → Int32} {w : Int64} {g : Nat → Int64} (h0 : ¬ ((v 1) ≤ 0)) : gsY_X11_want_1 NF j1 v f w g = (v, f, w, g) := by
  simp only [gsY_X11_want_1, if_neg h0]
def gsY_X11_toldNumber_1 (NF : Nat) (p1 : Int32) (p2 : Int32) (v : Nat → Int32) (f : Nat → Nat → Int32) (w : Int64) (g : Nat → Int64) : Int32 × (Nat → Int32) × (Nat → Nat → Int32) × (Int64) × (Nat → Int64) :=
  if (v 1) ≤ 0 then
    if (v 5) = 2 then
      if (v 7) < p1 then
        match gsY_X11_wrong_1 NF 4 v f w g with
        | (v7, f8, w9, g10) =>
          if (v7 1) = 0 then
            match gsY_X11_token_1 NF v7 f8 w9 g10 with
            | (v19, f20, w21, g22) =>
              ((v7 7), v19, f20, w21, g22)
          else
            ((v7 7), v7, f8, w9, g10)
      else
        if (v 7) ≤ p2 then
          if (v 1) = 0 then
            match gsY_X11_token_1 NF v f w g with
            | (v34, f35, w36, g37) =>
              ((v 7), v34, f35, w36, g37)
          else
            ((v 7), v, f, w, g)
        else
          match gsY_X11_wrong_1 NF 4 v f w g with
          | (v45, f46, w47, g48) =>
            if (v45 1) = 0 then
              match gsY_X11_token_1 NF v45 f46 w47 g48 with
              | (v57, f58, w59, g60) =>
                ((v45 7), v57, f58, w59, g60)
            else
              ((v45 7), v45, f46, w47, g48)
    else
      match gsY_X11_wrong_1 NF 2 v f w g with
      | (v67, f68, w69, g70) =>
        if (v67 1) = 0 then
          match gsY_X11_token_1 NF v67 f68 w69 g70 with
          | (v79, f80, w81, g82) =>
            ((v67 7), v79, f80, w81, g82)
        else
          ((v67 7), v67, f68, w69, g70)
  else
    (0, v, f, w, g)
theorem gsY_X11_toldNumber_1_q0 {NF : Nat} {p1 : Int32} {p2 : Int32} {v : Nat → Int32} {f : Nat → Nat → Int32} {w : Int64} {g : Nat → Int64} {v7 : Nat → Int32} {f8 : Nat → Nat → Int32} {w9 : Int64} {g10 : Nat → Int64} (h0 : ((v 1) ≤ 0)) (h1 : ((v 5) = 2)) (h2 : ((v 7) < p1)) (h3 : gsY_X11_wrong_1 NF 4 v f w g = (v7, f8, w9, g10)) (h4 : ¬ ((v7 1) = 0)) : gsY_X11_toldNumber_1 NF p1 p2 v f w g = ((v7 7), v7, f8, w9, g10) := by
  simp only [gsY_X11_toldNumber_1, if_pos h0, if_pos h1, if_pos h2, h3, if_neg h4]
theorem gsY_X11_toldNumber_1_q1 {NF : Nat} {p1 : Int32} {p2 : Int32} {v : Nat → Int32} {f : Nat → Nat → Int32} {w : Int64} {g : Nat → Int64} {v7 : Nat → Int32} {f8 : Nat → Nat → Int32} {w9 : Int64} {g10 : Nat → Int64} {v19 : Nat → Int32} {f20 : Nat → Nat → Int32} {w21 : Int64} {g22 : Nat → Int64} (h0 : ((v 1) ≤ 0)) (h1 : ((v 5) = 2)) (h2 : ((v 7) < p1)) (h3 : gsY_X11_wrong_1 NF 4 v f w g = (v7, f8, w9, g10)) (h4 : ((v7 1) = 0)) (h5 : gsY_X11_token_1 NF v7 f8 w9 g10 = (v19, f20, w21, g22)) : gsY_X11_toldNumber_1 NF p1 p2 v f w g = ((v7 7), v19, f20, w21, g22) := by
  simp only [gsY_X11_toldNumber_1, if_pos h0, if_pos h1, if_pos h2, h3, if_pos h4, h5]
theorem gsY_X11_toldNumber_1_q2 {NF : Nat} {p1 : Int32} {p2 : Int32} {v : Nat → Int32} {f : Nat → Nat → Int32} {w : Int64} {g : Nat → Int64} (h0 : ((v 1) ≤ 0)) (h1 : ((v 5) = 2)) (h2 : ¬ ((v 7) < p1)) (h3 : ((v 7) ≤ p2)) (h4 : ¬ ((v 1) = 0)) : gsY_X11_toldNumber_1 NF p1 p2 v f w g = ((v 7), v, f, w, g) := by
  simp only [gsY_X11_toldNumber_1, if_pos h0, if_pos h1, if_neg h2, if_pos h3, if_neg h4]
theorem gsY_X11_toldNumber_1_q3 {NF : Nat} {p1 : Int32} {p2 : Int32} {v : Nat → Int32} {f : Nat → Nat → Int32} {w : Int64} {g : Nat → Int64} {v34 : Nat → Int32} {f35 : Nat → Nat → Int32} {w36 : Int64} {g37 : Nat → Int64} (h0 : ((v 1) ≤ 0)) (h1 : ((v 5) = 2)) (h2 : ¬ ((v 7) < p1)) (h3 : ((v 7) ≤ p2)) (h4 : ((v 1) = 0)) (h5 : gsY_X11_token_1 NF v f w g = (v34, f35, w36, g37)) : gsY_X11_toldNumber_1 NF p1 p2 v f w g = ((v 7), v34, f35, w36, g37) := by
  simp only [gsY_X11_toldNumber_1, if_pos h0, if_pos h1, if_neg h2, if_pos h3, if_pos h4, h5]
theorem gsY_X11_toldNumber_1_q4 {NF : Nat} {p1 : Int32} {p2 : Int32} {v : Nat → Int32} {f : Nat → Nat → Int32} {w : Int64} {g : Nat → Int64} {v45 : Nat → Int32} {f46 : Nat → Nat → Int32} {w47 : Int64} {g48 : Nat → Int64} (h0 : ((v 1) ≤ 0)) (h1 : ((v 5) = 2)) (h2 : ¬ ((v 7) < p1)) (h3 : ¬ ((v 7) ≤ p2)) (h4 : gsY_X11_wrong_1 NF 4 v f w g = (v45, f46, w47, g48)) (h5 : ¬ ((v45 1) = 0)) : gsY_X11_toldNumber_1 NF p1 p2 v f w g = ((v45 7), v45, f46, w47, g48) := by
  simp only [gsY_X11_toldNumber_1, if_pos h0, if_pos h1, if_neg h2, if_neg h3, h4, if_neg h5]
theorem gsY_X11_toldNumber_1_q5 {NF : Nat} {p1 : Int32} {p2 : Int32} {v : Nat → Int32} {f : Nat → Nat → Int32} {w : Int64} {g : Nat → Int64} {v45 : Nat → Int32} {f46 : Nat → Nat → Int32} {w47 : Int64} {g48 : Nat → Int64} {v57 : Nat → Int32} {f58 : Nat → Nat → Int32} {w59 : Int64} {g60 : Nat → Int64} (h0 : ((v 1) ≤ 0)) (h1 : ((v 5) = 2)) (h2 : ¬ ((v 7) < p1)) (h3 : ¬ ((v 7) ≤ p2)) (h4 : gsY_X11_wrong_1 NF 4 v f w g = (v45, f46, w47, g48)) (h5 : ((v45 1) = 0)) (h6 : gsY_X11_token_1 NF v45 f46 w47 g48 = (v57, f58, w59, g60)) : gsY_X11_toldNumber_1 NF p1 p2 v f w g = ((v45 7), v57, f58, w59, g60) := by
  simp only [gsY_X11_toldNumber_1, if_pos h0, if_pos h1, if_neg h2, if_neg h3, h4, if_pos h5, h6]
theorem gsY_X11_toldNumber_1_q6 {NF : Nat} {p1 : Int32} {p2 : Int32} {v : Nat → Int32} {f : Nat → Nat → Int32} {w : Int64} {g : Nat → Int64} {v67 : Nat → Int32} {f68 : Nat → Nat → Int32} {w69 : Int64} {g70 : Nat → Int64} (h0 : ((v 1) ≤ 0)) (h1 : ¬ ((v 5) = 2)) (h2 : gsY_X11_wrong_1 NF 2 v f w g = (v67, f68, w69, g70)) (h3 : ¬ ((v67 1) = 0)) : gsY_X11_toldNumber_1 NF p1 p2 v f w g = ((v67 7), v67, f68, w69, g70) := by
  simp only [gsY_X11_toldNumber_1, if_pos h0, if_neg h1, h2, if_neg h3]
theorem gsY_X11_toldNumber_1_q7 {NF : Nat} {p1 : Int32} {p2 : Int32} {v : Nat → Int32} {f : Nat → Nat → Int32} {w : Int64} {g : Nat → Int64} {v67 : Nat → Int32} {f68 : Nat → Nat → Int32} {w69 : Int64} {g70 : Nat → Int64} {v79 : Nat → Int32} {f80 : Nat → Nat → Int32} {w81 : Int64} {g82 : Nat → Int64} (h0 : ((v 1) ≤ 0)) (h1 : ¬ ((v 5) = 2)) (h2 : gsY_X11_wrong_1 NF 2 v f w g = (v67, f68, w69, g70)) (h3 : ((v67 1) = 0)) (h4 : gsY_X11_token_1 NF v67 f68 w69 g70 = (v79, f80, w81, g82)) : gsY_X11_toldNumber_1 NF p1 p2 v f w g = ((v67 7), v79, f80, w81, g82) := by
  simp only [gsY_X11_toldNumber_1, if_pos h0, if_neg h1, h2, if_pos h3, h4]
theorem gsY_X11_toldNumber_1_q8 {NF : Nat} {p1 : Int32} {p2 : Int32} {v : Nat → Int32} {f : Nat → Nat → Int32} {w : Int64} {g : Nat → Int64} (h0 : ¬ ((v 1) ≤ 0)) : gsY_X11_toldNumber_1 NF p1 p2 v f w g = (0, v, f, w, g) := by
  simp only [gsY_X11_toldNumber_1, if_neg h0]
def gsY_X11_told_1 (NF : Nat) (j1 : Int64) (p2 : Int32) (v : Nat → Int32) (f : Nat → Nat → Int32) (w : Int64) (g : Nat → Int64) : Int32 × (Nat → Int32) × (Nat → Nat → Int32) × (Int64) × (Nat → Int64) :=
  match gsY_X11_want_1 NF j1 v f w g with
  | (v2, f3, w4, g5) =>
    match gsY_X11_toldNumber_1 NF 0 p2 v2 f3 w4 g5 with
    | (r11, v13, f14, w15, g16) =>
      (r11, v13, f14, w15, g16)
theorem gsY_X11_told_1_q0 {NF : Nat} {j1 : Int64} {p2 : Int32} {v : Nat → Int32} {f : Nat → Nat → Int32} {w : Int64} {g : Nat → Int64} {v2 : Nat → Int32} {f3 : Nat → Nat → Int32} {w4 : Int64} {g5 : Nat → Int64} {r11 : Int32} {v13 : Nat → Int32} {f14 : Nat → Nat → Int32} {w15 : Int64} {g16 : Nat → Int64} (h0 : gsY_X11_want_1 NF j1 v f w g = (v2, f3, w4, g5)) (h1 : gsY_X11_toldNumber_1 NF 0 p2 v2 f3 w4 g5 = (r11, v13, f14, w15, g16)) : gsY_X11_told_1 NF j1 p2 v f w g = (r11, v13, f14, w15, g16) := by
  simp only [gsY_X11_told_1, h0, h1]
def gsY_X11_asked_1 (NF : Nat) (v : Nat → Int32) (f : Nat → Nat → Int32) (w : Int64) (g : Nat → Int64) : Int32 :=
  if (v 5) = 1 then
    let t2 : Int32 := lg_cmp w (499984590964 : Int64)
    if t2 = 0 then
      0
    else
      let t4 : Int32 := lg_cmp w (465726042981 : Int64)
      if t4 = 0 then
        1
      else
        let t6 : Int32 := lg_cmp w (495673373300 : Int64)
        if t6 = 0 then
          2
        else
          let t8 : Int32 := lg_cmp w (1819242087 : Int64)
          if t8 = 0 then
            3
          else
            let t10 : Int32 := lg_cmp w (2003792494 : Int64)
            if t10 = 0 then
              4
            else
              let t12 : Int32 := lg_cmp w (6578553 : Int64)
              if t12 = 0 then
                5
              else
                (-1)
  else
    (-1)
theorem gsY_X11_asked_1_q0 {NF : Nat} {v : Nat → Int32} {f : Nat → Nat → Int32} {w : Int64} {g : Nat → Int64} {t2 : Int32} {t4 : Int32} {t6 : Int32} {t8 : Int32} {t10 : Int32} {t12 : Int32} (h0 : ((v 5) = 1)) (h1 : t2 = lg_cmp w (499984590964 : Int64)) (h2 : ¬ (t2 = 0)) (h3 : t4 = lg_cmp w (465726042981 : Int64)) (h4 : ¬ (t4 = 0)) (h5 : t6 = lg_cmp w (495673373300 : Int64)) (h6 : ¬ (t6 = 0)) (h7 : t8 = lg_cmp w (1819242087 : Int64)) (h8 : ¬ (t8 = 0)) (h9 : t10 = lg_cmp w (2003792494 : Int64)) (h10 : ¬ (t10 = 0)) (h11 : t12 = lg_cmp w (6578553 : Int64)) (h12 : ¬ (t12 = 0)) : gsY_X11_asked_1 NF v f w g = (-1) := by
  subst h1 h3 h5 h7 h9 h11
  simp only [gsY_X11_asked_1, if_pos h0, if_neg h2, if_neg h4, if_neg h6, if_neg h8, if_neg h10, if_neg h12]
theorem gsY_X11_asked_1_q1 {NF : Nat} {v : Nat → Int32} {f : Nat → Nat → Int32} {w : Int64} {g : Nat → Int64} {t2 : Int32} {t4 : Int32} {t6 : Int32} {t8 : Int32} {t10 : Int32} {t12 : Int32} (h0 : ((v 5) = 1)) (h1 : t2 = lg_cmp w (499984590964 : Int64)) (h2 : ¬ (t2 = 0)) (h3 : t4 = lg_cmp w (465726042981 : Int64)) (h4 : ¬ (t4 = 0)) (h5 : t6 = lg_cmp w (495673373300 : Int64)) (h6 : ¬ (t6 = 0)) (h7 : t8 = lg_cmp w (1819242087 : Int64)) (h8 : ¬ (t8 = 0)) (h9 : t10 = lg_cmp w (2003792494 : Int64)) (h10 : ¬ (t10 = 0)) (h11 : t12 = lg_cmp w (6578553 : Int64)) (h12 : (t12 = 0)) : gsY_X11_asked_1 NF v f w g = 5 := by
  subst h1 h3 h5 h7 h9 h11
  simp only [gsY_X11_asked_1, if_pos h0, if_neg h2, if_neg h4, if_neg h6, if_neg h8, if_neg h10, if_pos h12]
theorem gsY_X11_asked_1_q2 {NF : Nat} {v : Nat → Int32} {f : Nat → Nat → Int32} {w : Int64} {g : Nat → Int64} {t2 : Int32} {t4 : Int32} {t6 : Int32} {t8 : Int32} {t10 : Int32} (h0 : ((v 5) = 1)) (h1 : t2 = lg_cmp w (499984590964 : Int64)) (h2 : ¬ (t2 = 0)) (h3 : t4 = lg_cmp w (465726042981 : Int64)) (h4 : ¬ (t4 = 0)) (h5 : t6 = lg_cmp w (495673373300 : Int64)) (h6 : ¬ (t6 = 0)) (h7 : t8 = lg_cmp w (1819242087 : Int64)) (h8 : ¬ (t8 = 0)) (h9 : t10 = lg_cmp w (2003792494 : Int64)) (h10 : (t10 = 0)) : gsY_X11_asked_1 NF v f w g = 4 := by
  subst h1 h3 h5 h7 h9
  simp only [gsY_X11_asked_1, if_pos h0, if_neg h2, if_neg h4, if_neg h6, if_neg h8, if_pos h10]
theorem gsY_X11_asked_1_q3 {NF : Nat} {v : Nat → Int32} {f : Nat → Nat → Int32} {w : Int64} {g : Nat → Int64} {t2 : Int32} {t4 : Int32} {t6 : Int32} {t8 : Int32} (h0 : ((v 5) = 1)) (h1 : t2 = lg_cmp w (499984590964 : Int64)) (h2 : ¬ (t2 = 0)) (h3 : t4 = lg_cmp w (465726042981 : Int64)) (h4 : ¬ (t4 = 0)) (h5 : t6 = lg_cmp w (495673373300 : Int64)) (h6 : ¬ (t6 = 0)) (h7 : t8 = lg_cmp w (1819242087 : Int64)) (h8 : (t8 = 0)) : gsY_X11_asked_1 NF v f w g = 3 := by
  subst h1 h3 h5 h7
  simp only [gsY_X11_asked_1, if_pos h0, if_neg h2, if_neg h4, if_neg h6, if_pos h8]
theorem gsY_X11_asked_1_q4 {NF : Nat} {v : Nat → Int32} {f : Nat → Nat → Int32} {w : Int64} {g : Nat → Int64} {t2 : Int32} {t4 : Int32} {t6 : Int32} (h0 : ((v 5) = 1)) (h1 : t2 = lg_cmp w (499984590964 : Int64)) (h2 : ¬ (t2 = 0)) (h3 : t4 = lg_cmp w (465726042981 : Int64)) (h4 : ¬ (t4 = 0)) (h5 : t6 = lg_cmp w (495673373300 : Int64)) (h6 : (t6 = 0)) : gsY_X11_asked_1 NF v f w g = 2 := by
  subst h1 h3 h5
  simp only [gsY_X11_asked_1, if_pos h0, if_neg h2, if_neg h4, if_pos h6]
theorem gsY_X11_asked_1_q5 {NF : Nat} {v : Nat → Int32} {f : Nat → Nat → Int32} {w : Int64} {g : Nat → Int64} {t2 : Int32} {t4 : Int32} (h0 : ((v 5) = 1)) (h1 : t2 = lg_cmp w (499984590964 : Int64)) (h2 : ¬ (t2 = 0)) (h3 : t4 = lg_cmp w (465726042981 : Int64)) (h4 : (t4 = 0)) : gsY_X11_asked_1 NF v f w g = 1 := by
  subst h1 h3
  simp only [gsY_X11_asked_1, if_pos h0, if_neg h2, if_pos h4]
theorem gsY_X11_asked_1_q6 {NF : Nat} {v : Nat → Int32} {f : Nat → Nat → Int32} {w : Int64} {g : Nat → Int64} {t2 : Int32} (h0 : ((v 5) = 1)) (h1 : t2 = lg_cmp w (499984590964 : Int64)) (h2 : (t2 = 0)) : gsY_X11_asked_1 NF v f w g = 0 := by
  subst h1
  simp only [gsY_X11_asked_1, if_pos h0, if_pos h2]
theorem gsY_X11_asked_1_q7 {NF : Nat} {v : Nat → Int32} {f : Nat → Nat → Int32} {w : Int64} {g : Nat → Int64} (h0 : ¬ ((v 5) = 1)) : gsY_X11_asked_1 NF v f w g = (-1) := by
  simp only [gsY_X11_asked_1, if_neg h0]
