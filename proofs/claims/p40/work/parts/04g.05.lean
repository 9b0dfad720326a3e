def gsY_X11_told_1 (NF : Nat) (j1 : Int64) (p2 : Int32) (v : Nat → Int32) (f : Nat → Nat → Int32) (w : Int64) (g : Nat → Int64) : Int32 × (Nat → Int32) × (Nat → Nat → Int32) × (Int64) × (Nat → Int64) :=
  match gsY_X11_want_1 NF j1 v f w g with
  | (v2, f3, w4, g5) =>
    match gsY_X11_toldNumber_1 NF 0 p2 v2 f3 w4 g5 with
    | (r11, v13, f14, w15, g16) =>
      (r11, v13, f14, w15, g16)
theorem gsY_X11_told_1_q0 {NF : Nat} {j1 : Int64} {p2 : Int32} {v : Nat → Int32} {f : Nat → Nat → Int32} {w : Int64} {g : Nat → Int64} {v2 : Nat → Int32} {f3 : Nat → Nat → Int32} {w4 : Int64} {g5 : Nat → Int64} {r11 : Int32} {v13 : Nat → Int32} {f14 : Nat → Nat → Int32} {w15 : Int64} {g16 : Nat → Int64} (h0 : gsY_X11_want_1 NF j1 v f w g = (v2, f3, w4, g5)) (h1 : gsY_X11_toldNumber_1 NF 0 p2 v2 f3 w4 g5 = (r11, v13, f14, w15, g16)) : gsY_X11_told_1 NF j1 p2 v f w g = (r11, v13, f14, w15, g16) := by
  simp only [gsY_X11_told_1, h0, h1]
def gsY_X11_asked_1 (NF : Nat) (v : Nat → Int32) (f : Nat → Nat → Int32) (w : Int64) (g : Nat → Int64) : Int32 :=
  if (v 5) = 1 then
    let t2 : Int32 := lg_cmp w (499984590964 : Int64)
    if t2 = 0 then
      0
    else
      let t4 : Int32 := lg_cmp w (465726042981 : Int64)
      if t4 = 0 then
        1
      else
        let t6 : Int32 := lg_cmp w (495673373300 : Int64)
        if t6 = 0 then
          2
        else
          let t8 : Int32 := lg_cmp w (1819242087 : Int64)
          if t8 = 0 then
            3
          else
            let t10 : Int32 := lg_cmp w (2003792494 : Int64)
            if t10 = 0 then
              4
            else
              let t12 : Int32 := lg_cmp w (6578553 : Int64)
              if t12 = 0 then
                5
              else
                (-1)
  else
    (-1)
theorem gsY_X11_asked_1_q0 {NF : Nat} {v : Nat → Int32} {f : Nat → Nat → Int32} {w : Int64} {g : Nat → Int64} {t2 : Int32} {t4 : Int32} {t6 : Int32} {t8 : Int32} {t10 : Int32} {t12 : Int32} (h0 : ((v 5) = 1)) (h1 : t2 = lg_cmp w (499984590964 : Int64)) (h2 : ¬ (t2 = 0)) (h3 : t4 = lg_cmp w (465726042981 : Int64)) (h4 : ¬ (t4 = 0)) (h5 : t6 = lg_cmp w (495673373300 : Int64)) (h6 : ¬ (t6 = 0)) (h7 : t8 = lg_cmp w (1819242087 : Int64)) (h8 : ¬ (t8 = 0)) (h9 : t10 = lg_cmp w (2003792494 : Int64)) (h10 : ¬ (t10 = 0)) (h11 : t12 = lg_cmp w (6578553 : Int64)) (h12 : ¬ (t12 = 0)) : gsY_X11_asked_1 NF v f w g = (-1) := by
  subst h1 h3 h5 h7 h9 h11
  simp only [gsY_X11_asked_1, if_pos h0, if_neg h2, if_neg h4, if_neg h6, if_neg h8, if_neg h10, if_neg h12]
theorem gsY_X11_asked_1_q1 {NF : Nat} {v : Nat → Int32} {f : Nat → Nat → Int32} {w : Int64} {g : Nat → Int64} {t2 : Int32} {t4 : Int32} {t6 : Int32} {t8 : Int32} {t10 : Int32} {t12 : Int32} (h0 : ((v 5) = 1)) (h1 : t2 = lg_cmp w (499984590964 : Int64)) (h2 : ¬ (t2 = 0)) (h3 : t4 = lg_cmp w (465726042981 : Int64)) (h4 : ¬ (t4 = 0)) (h5 : t6 = lg_cmp w (495673373300 : Int64)) (h6 : ¬ (t6 = 0)) (h7 : t8 = lg_cmp w (1819242087 : Int64)) (h8 : ¬ (t8 = 0)) (h9 : t10 = lg_cmp w (2003792494 : Int64)) (h10 : ¬ (t10 = 0)) (h11 : t12 = lg_cmp w (6578553 : Int64)) (h12 : (t12 = 0)) : gsY_X11_asked_1 NF v f w g = 5 := by
  subst h1 h3 h5 h7 h9 h11
  simp only [gsY_X11_asked_1, if_pos h0, if_neg h2, if_neg h4, if_neg h6, if_neg h8, if_neg h10, if_pos h12]
theorem gsY_X11_asked_1_q2 {NF : Nat} {v : Nat → Int32} {f : Nat → Nat → Int32} {w : Int64} {g : Nat → Int64} {t2 : Int32} {t4 : Int32} {t6 : Int32} {t8 : Int32} {t10 : Int32} (h0 : ((v 5) = 1)) (h1 : t2 = lg_cmp w (499984590964 : Int64)) (h2 : ¬ (t2 = 0)) (h3 : t4 = lg_cmp w (465726042981 : Int64)) (h4 : ¬ (t4 = 0)) (h5 : t6 = lg_cmp w (495673373300 : Int64)) (h6 : ¬ (t6 = 0)) (h7 : t8 = lg_cmp w (1819242087 : Int64)) (h8 : ¬ (t8 = 0)) (h9 : t10 = lg_cmp w (2003792494 : Int64)) (h10 : (t10 = 0)) : gsY_X11_asked_1 NF v f w g = 4 := by
  subst h1 h3 h5 h7 h9
  simp only [gsY_X11_asked_1, if_pos h0, if_neg h2, if_neg h4, if_neg h6, if_neg h8, if_pos h10]
theorem gsY_X11_asked_1_q3 {NF : Nat} {v : Nat → Int32} {f : Nat → Nat → Int32} {w : Int64} {g : Nat → Int64} {t2 : Int32} {t4 : Int32} {t6 : Int32} {t8 : Int32} (h0 : ((v 5) = 1)) (h1 : t2 = lg_cmp w (499984590964 : Int64)) (h2 : ¬ (t2 = 0)) (h3 : t4 = lg_cmp w (465726042981 : Int64)) (h4 : ¬ (t4 = 0)) (h5 : t6 = lg_cmp w (495673373300 : Int64)) (h6 : ¬ (t6 = 0)) (h7 : t8 = lg_cmp w (1819242087 : Int64)) (h8 : (t8 = 0)) : gsY_X11_asked_1 NF v f w g = 3 := by
  subst h1 h3 h5 h7
  simp only [gsY_X11_asked_1, if_pos h0, if_neg h2, if_neg h4, if_neg h6, if_pos h8]
theorem gsY_X11_asked_1_q4 {NF : Nat} {v : Nat → Int32} {f : Nat → Nat → Int32} {w : Int64} {g : Nat → Int64} {t2 : Int32} {t4 : Int32} {t6 : Int32} (h0 : ((v 5) = 1)) (h1 : t2 = lg_cmp w (499984590964 : Int64)) (h2 : ¬ (t2 = 0)) (h3 : t4 = lg_cmp w (465726042981 : Int64)) (h4 : ¬ (t4 = 0)) (h5 : t6 = lg_cmp w (495673373300 : Int64)) (h6 : (t6 = 0)) : gsY_X11_asked_1 NF v f w g = 2 := by
  subst h1 h3 h5
  simp only [gsY_X11_asked_1, if_pos h0, if_neg h2, if_neg h4, if_pos h6]
theorem gsY_X11_asked_1_q5 {NF : Nat} {v : Nat → Int32} {f : Nat → Nat → Int32} {w : Int64} {g : Nat → Int64} {t2 : Int32} {t4 : Int32} (h0 : ((v 5) = 1)) (h1 : t2 = lg_cmp w (499984590964 : Int64)) (h2 : ¬ (t2 = 0)) (h3 : t4 = lg_cmp w (465726042981 : Int64)) (h4 : (t4 = 0)) : gsY_X11_asked_1 NF v f w g = 1 := by
  subst h1 h3
  simp only [gsY_X11_asked_1, if_pos h0, if_neg h2, if_pos h4]
theorem gsY_X11_asked_1_q6 {NF : Nat} {v : Nat → Int32} {f : Nat → Nat → Int32} {w : Int64} {g : Nat → Int64} {t2 : Int32} (h0 : ((v 5) = 1)) (h1 : t2 = lg_cmp w (499984590964 : Int64)) (h2 : (t2 = 0)) : gsY_X11_asked_1 NF v f w g = 0 := by
  subst h1
  simp only [gsY_X11_asked_1, if_pos h0, if_pos h2]
theorem gsY_X11_asked_1_q7 {NF : Nat} {v : Nat → Int32} {f : Nat → Nat → Int32} {w : Int64} {g : Nat → Int64} (h0 : ¬ ((v 5) = 1)) : gsY_X11_asked_1 NF v f w g = (-1) := by
  simp only [gsY_X11_asked_1, if_neg h0]
def gsY_X11_countUnit_1 (NF : Nat) (v : Nat → Int32) (f : Nat → Nat → Int32) (w : Int64) (g : Nat → Int64) : (Nat → Int32) × (Nat → Nat → Int32) × (Int64) × (Nat → Int64) :=
  let t1 : Int32 := (v 11) + 1
  let t2 : Int32 := (v 13) + 1
  ((upd (upd v 11 t1) 13 t2), f, w, g)
theorem gsY_X11_countUnit_1_q0 {NF : Nat} {v : Nat → Int32} {f : Nat → Nat → Int32} {w : Int64} {g : Nat → Int64} {t1 : Int32} {t2 : Int32} (h0 : t1 = (v 11) + 1) (h1 : t2 = (v 13) + 1) : gsY_X11_countUnit_1 NF v f w g = ((upd (upd v 11 t1) 13 t2), f, w, g) := by
  subst h0 h1
  simp only [gsY_X11_countUnit_1]
def gsY_X11_add_1 (NF : Nat) (p1 : Int32) (p2 : Int32) (v : Nat → Int32) (f : Nat → Nat → Int32) (w : Int64) (g : Nat → Int64) : (Nat → Int32) × (Nat → Nat → Int32) × (Int64) × (Nat → Int64) :=
  let f1 : Nat → Nat → Int32 := upd2 f 2 (upd (f 2) (v 8).toNatClampNeg p1)
  let f2 : Nat → Nat → Int32 := upd2 f1 3 (upd (f1 3) (v 8).toNatClampNeg p2)
  let t3 : Int32 := (v 8) + 1
  ((upd v 8 t3), f2, w, g)
theorem gsY_X11_add_1_q0 {NF : Nat} {p1 : Int32} {p2 : Int32} {v : Nat → Int32} {f : Nat → Nat → Int32} {w : Int64} {g : Nat → Int64} {f1 : Nat → Nat → Int32} {f2 : Nat → Nat → Int32} {t3 : Int32} (h0 : f1 = upd2 f 2 (upd (f 2) (v 8).toNatClampNeg p1)) (h1 : f2 = upd2 f1 3 (upd (f1 3) (v 8).toNatClampNeg p2)) (h2 : t3 = (v 8) + 1) : gsY_X11_add_1 NF p1 p2 v f w g = ((upd v 8 t3), f2, w, g) := by
  subst h0 h1 h2
  simp only [gsY_X11_add_1]
def gsY_X11_isFull_1 (NF : Nat) (v : Nat → Int32) (f : Nat → Nat → Int32) (w : Int64) (g : Nat → Int64) : Int32 :=
  if (v 11) = 60 then
    1
  else
    if (v 13) = 30 then
      1
    else
      0
theorem gsY_X11_isFull_1_q0 {NF : Nat} {v : Nat → Int32} {f : Nat → Nat → Int32} {w : Int64} {g : Nat → Int64} (h0 : ((v 11) = 60)) : gsY_X11_isFull_1 NF v f w g = 1 := by
  simp only [gsY_X11_isFull_1, if_pos h0]
theorem gsY_X11_isFull_1_q1 {NF : Nat} {v : Nat → Int32} {f : Nat → Nat → Int32} {w : Int64} {g : Nat → Int64} (h0 : ¬ ((v 11) = 60)) (h1 : ¬ ((v 13) = 30)) : gsY_X11_isFull_1 NF v f w g = 0 := by
  simp only [gsY_X11_isFull_1, if_neg h0, if_neg h1]
theorem gsY_X11_isFull_1_q2 {NF : Nat} {v : Nat → Int32} {f : Nat → Nat → Int32} {w : Int64} {g : Nat → Int64} (h0 : ¬ ((v 11) = 60)) (h1 : ((v 13) = 30)) : gsY_X11_isFull_1 NF v f w g = 1 := by
  simp only [gsY_X11_isFull_1, if_neg h0, if_pos h1]
def gsY_X11_openUp_1 (NF : Nat) (p1 : Int32) (v : Nat → Int32) (f : Nat → Nat → Int32) (w : Int64) (g : Nat → Int64) : (Nat → Int32) × (Nat → Nat → Int32) × (Int64) × (Nat → Int64) :=
  let f1 : Nat → Nat → Int32 := upd2 f 6 (upd (f 6) (v 10).toNatClampNeg p1)
  let t2 : Int32 := (v 10) + 1
  let t4 : Int32 := (v 14) + 1
  if (v 1) = 0 then
    match gsY_X11_token_1 NF (upd (upd v 10 t2) 14 t4) f1 w g with
    | (v8, f9, w10, g11) =>
      (v8, f9, w10, g11)
  else
    ((upd (upd v 10 t2) 14 t4), f1, w, g)
theorem gsY_X11_openUp_1_q0 {NF : Nat} {p1 : Int32} {v : Nat → Int32} {f : Nat → Nat → Int32} {w : Int64} {g : Nat → Int64} {f1 : Nat → Nat → Int32} {t2 : Int32} {t4 : Int32} (h0 : f1 = upd2 f 6 (upd (f 6) (v 10).toNatClampNeg p1)) (h1 : t2 = (v 10) + 1) (h2 : t4 = (v 14) + 1) (h3 : ¬ ((v 1) = 0)) : gsY_X11_openUp_1 NF p1 v f w g = ((upd (upd v 10 t2) 14 t4), f1, w, g) := by
  subst h0 h1 h2
  simp only [gsY_X11_openUp_1, if_neg h3]
theorem gsY_X11_openUp_1_q1 {NF : Nat} {p1 : Int32} {v : Nat → Int32} {f : Nat → Nat → Int32} {w : Int64} {g : Nat → Int64} {f1 : Nat → Nat → Int32} {t2 : Int32} {t4 : Int32} {v8 : Nat → Int32} {f9 : Nat → Nat → Int32} {w10 : Int64} {g11 : Nat → Int64} (h0 : f1 = upd2 f 6 (upd (f 6) (v 10).toNatClampNeg p1)) (h1 : t2 = (v 10) + 1) (h2 : t4 = (v 14) + 1) (h3 : ((v 1) = 0)) (h4 : gsY_X11_token_1 NF (upd (upd v 10 t2) 14 t4) f1 w g = (v8, f9, w10, g11)) : gsY_X11_openUp_1 NF p1 v f w g = (v8, f9, w10, g11) := by
  subst h0 h1 h2
  simp only [gsY_X11_openUp_1, if_pos h3, h4]
def gsY_X11_tight_1 (NF : Nat) (p0 : Int32) (v : Nat → Int32) (f : Nat → Nat → Int32) (w : Int64) (g : Nat → Int64) : Int32 :=
  if p0 = 21 then
    3
  else
    if p0 = 38 then
      2
    else
      if p0 = 43 then
        5
      else
        if p0 = 45 then
          5
        else
          if p0 = 60 then
            4
          else
            if p0 = 61 then
              4
            else
              if p0 = 62 then
                4
              else
                if p0 = 124 then
                  1
                else
                  6
theorem gsY_X11_tight_1_q0 {NF : Nat} {p0 : Int32} {v : Nat → Int32} {f : Nat → Nat → Int32} {w : Int64} {g : Nat → Int64} (h0 : (p0 = 21)) : gsY_X11_tight_1 NF p0 v f w g = 3 := by
  simp only [gsY_X11_tight_1, if_pos h0]
theorem gsY_X11_tight_1_q1 {NF : Nat} {p0 : Int32} {v : Nat → Int32} {f : Nat → Nat → Int32} {w : Int64} {g : Nat → Int64} (h0 : ¬ (p0 = 21)) (h1 : (p0 = 38)) : gsY_X11_tight_1 NF p0 v f w g = 2 := by
  simp only [gsY_X11_tight_1, if_neg h0, if_pos h1]
theorem gsY_X11_tight_1_q2 {NF : Nat} {p0 : Int32} {v : Nat → Int32} {f : Nat → Nat → Int32} {w : Int64} {g : Nat → Int64} (h0 : ¬ (p0 = 21)) (h1 : ¬ (p0 = 38)) (h2 : (p0 = 43)) : gsY_X11_tight_1 NF p0 v f w g = 5 := by
  simp only [gsY_X11_tight_1, if_neg h0, if_neg h1, if_pos h2]
theorem gsY_X11_tight_1_q3 {NF : Nat} {p0 : Int32} {v : Nat → Int32} {f : Nat → Nat → Int32} {w : Int64} {g : Nat → Int64} (h0 : ¬ (p0 = 21)) (h1 : ¬ (p0 = 38)) (h2 : ¬ (p0 = 43)) (h3 : (p0 = 45)) : gsY_X11_tight_1 NF p0 v f w g = 5 := by
  simp only [gsY_X11_tight_1, if_neg h0, if_neg h1, if_neg h2, if_pos h3]
theorem gsY_X11_tight_1_q4 {NF : Nat} {p0 : Int32} {v : Nat → Int32} {f : Nat → Nat → Int32} {w : Int64} {g : Nat → Int64} (h0 : ¬ (p0 = 21)) (h1 : ¬ (p0 = 38)) (h2 : ¬ (p0 = 43)) (h3 : ¬ (p0 = 45)) (h4 : (p0 = 60)) : gsY_X11_tight_1 NF p0 v f w g = 4 := by
  simp only [gsY_X11_tight_1, if_neg h0, if_neg h1, if_neg h2, if_neg h3, if_pos h4]
theorem gsY_X11_tight_1_q5 {NF : Nat} {p0 : Int32} {v : Nat → Int32} {f : Nat → Nat → Int32} {w : Int64} {g : Nat → Int64} (h0 : ¬ (p0 = 21)) (h1 : ¬ (p0 = 38)) (h2 : ¬ (p0 = 43)) (h3 : ¬ (p0 = 45)) (h4 : ¬ (p0 = 60)) (h5 : (p0 = 61)) : gsY_X11_tight_1 NF p0 v f w g = 4 := by
  simp only [gsY_X11_tight_1, if_neg h0, if_neg h1, if_neg h2, if_neg h3, if_neg h4, if_pos h5]
theorem gsY_X11_tight_1_q6 {NF : Nat} {p0 : Int32} {v : Nat → Int32} {f : Nat → Nat → Int32} {w : Int64} {g : Nat → Int64} (h0 : ¬ (p0 = 21)) (h1 : ¬ (p0 = 38)) (h2 : ¬ (p0 = 43)) (h3 : ¬ (p0 = 45)) (h4 : ¬ (p0 = 60)) (h5 : ¬ (p0 = 61)) (h6 : (p0 = 62)) : gsY_X11_tight_1 NF p0 v f w g = 4 := by
  simp only [gsY_X11_tight_1, if_neg h0, if_neg h1, if_neg h2, if_neg h3, if_neg h4, if_neg h5, if_pos h6]
theorem gsY_X11_tight_1_q7 {NF : Nat} {p0 : Int32} {v : Nat → Int32} {f : Nat → Nat → Int32} {w : Int64} {g : Nat → Int64} (h0 : ¬ (p0 = 21)) (h1 : ¬ (p0 = 38)) (h2 : ¬ (p0 = 43)) (h3 : ¬ (p0 = 45)) (h4 : ¬ (p0 = 60)) (h5 : ¬ (p0 = 61)) (h6 : ¬ (p0 = 62)) (h7 : (p0 = 124)) : gsY_X11_tight_1 NF p0 v f w g = 1 := by
  simp only [gsY_X11_tight_1, if_neg h0, if_neg h1, if_neg h2, if_neg h3, if_neg h4, if_neg h5, if_neg h6, if_pos h7]
theorem gsY_X11_tight_1_q8 {NF : Nat} {p0 : Int32} {v : Nat → Int32} {f : Nat → Nat → Int32} {w : Int64} {g : Nat → Int64} (h0 : ¬ (p0 = 21)) (h1 : ¬ (p0 = 38)) (h2 : ¬ (p0 = 43)) (h3 : ¬ (p0 = 45)) (h4 : ¬ (p0 = 60)) (h5 : ¬ (p0 = 61)) (h6 : ¬ (p0 = 62)) (h7 : ¬ (p0 = 124)) : gsY_X11_tight_1 NF p0 v f w g = 6 := by
  simp only [gsY_X11_tight_1, if_neg h0, if_neg h1, if_neg h2, if_neg h3, if_neg h4, if_neg h5, if_neg h6, if_neg h7]
def gsY_X11_mayNot_1 (NF : Nat) (v : Nat → Int32) (f : Nat → Nat → Int32) (w : Int64) (g : Nat → Int64) : Int32 :=
  if (v 10) = 0 then
    1
  else
    let t2 : Int32 := (v 10) - 1
    let t4 : Int32 := f 6 (t2).toNatClampNeg
    if t4 = 20 then
      1
    else
      let r6 : Int32 := gsY_X11_tight_1 NF t4 v f w g
      if 4 ≤ r6 then
        0
      else
        1
theorem gsY_X11_mayNot_1_q0 {NF : Nat} {v : Nat → Int32} {f : Nat → Nat → Int32} {w : Int64} {g : Nat → Int64} (h0 : ((v 10) = 0)) : gsY_X11_mayNot_1 NF v f w g = 1 := by
  simp only [gsY_X11_mayNot_1, if_pos h0]
theorem gsY_X11_mayNot_1_q1 {NF : Nat} {v : Nat → Int32} {f : Nat → Nat → Int32} {w : Int64} {g : Nat → Int64} {t2 : Int32} {t4 : Int32} (h0 : ¬ ((v 10) = 0)) (h1 : t2 = (v 10) - 1) (h2 : t4 = f 6 (t2).toNatClampNeg) (h3 : (t4 = 20)) : gsY_X11_mayNot_1 NF v f w g = 1 := by
  subst h1 h2
  simp only [gsY_X11_mayNot_1, if_neg h0, if_pos h3]
theorem gsY_X11_mayNot_1_q2 {NF : Nat} {v : Nat → Int32} {f : Nat → Nat → Int32} {w : Int64} {g : Nat → Int64} {t2 : Int32} {t4 : Int32} {r6 : Int32} (h0 : ¬ ((v 10) = 0)) (h1 : t2 = (v 10) - 1) (h2 : t4 = f 6 (t2).toNatClampNeg) (h3 : ¬ (t4 = 20)) (h4 : r6 = gsY_X11_tight_1 NF t4 v f w g) (h5 : (4 ≤ r6)) : gsY_X11_mayNot_1 NF v f w g = 0 := by
  subst h1 h2 h4
  simp only [gsY_X11_mayNot_1, if_neg h0, if_neg h3, if_pos h5]
theorem gsY_X11_mayNot_1_q3 {NF : Nat} {v : Nat → Int32} {f : Nat → Nat → Int32} {w : Int64} {g : Nat → Int64} {t2 : Int32} {t4 : Int32} {r6 : Int32} (h0 : ¬ ((v 10) = 0)) (h1 : t2 = (v 10) - 1) (h2 : t4 = f 6 (t2).toNatClampNeg) (h3 : ¬ (t4 = 20)) (h4 : r6 = gsY_X11_tight_1 NF t4 v f w g) (h5 : ¬ (4 ≤ r6)) : gsY_X11_mayNot_1 NF v f w g = 1 := by
  subst h1 h2 h4
  simp only [gsY_X11_mayNot_1, if_neg h0, if_neg h3, if_neg h5]
def gsY_X11_unit_1_J6 (NF : Nat) (f1 : Nat → Nat → Int32) (g1 : Nat → Int64) (v1 : Nat → Int32) (w1 : Int64) (r4 : Int32) : (Nat → Int32) × (Nat → Nat → Int32) × (Int64) × (Nat → Int64) :=
  match gsY_X11_wrong_1 NF 2 v1 f1 w1 g1 with
  | (v8, f9, w10, g11) =>
    if (v8 1) ≤ 0 then
      match gsY_X11_countUnit_1 NF v8 f9 w10 g11 with
      | (v20, f21, w22, g23) =>
        if 0 ≤ r4 then
          if 0 ≤ r4 then
            match gsY_X11_add_1 NF 1 r4 v20 f21 w22 g23 with
            | (v31, f32, w33, g34) =>
              match gsY_X11_token_1 NF v31 f32 w33 g34 with
              | (v40, f41, w42, g43) =>
                (v40, f41, w42, g43)
          else
            match gsY_X11_add_1 NF 1 (v20 7) v20 f21 w22 g23 with
            | (v50, f51, w52, g53) =>
              match gsY_X11_token_1 NF v50 f51 w52 g53 with
              | (v59, f60, w61, g62) =>
                (v59, f60, w61, g62)
        else
          if 0 ≤ r4 then
            match gsY_X11_add_1 NF 0 r4 v20 f21 w22 g23 with
            | (v70, f71, w72, g73) =>
              match gsY_X11_token_1 NF v70 f71 w72 g73 with
              | (v79, f80, w81, g82) =>
                (v79, f80, w81, g82)
          else
            match gsY_X11_add_1 NF 0 (v20 7) v20 f21 w22 g23 with
            | (v89, f90, w91, g92) =>
              match gsY_X11_token_1 NF v89 f90 w91 g92 with
              | (v98, f99, w100, g101) =>
                (v98, f99, w100, g101)
    else
      (v8, f9, w10, g11)
def gsY_X11_unit_1_J107 (NF : Nat) (f1 : Nat → Nat → Int32) (g1 : Nat → Int64) (v1 : Nat → Int32) (w1 : Int64) (r4 : Int32) : (Nat → Int32) × (Nat → Nat → Int32) × (Int64) × (Nat → Int64) :=
  if gsY_X11_isFull_1 NF v1 f1 w1 g1 = 1 then
    gsY_X11_unit_1_J6 NF f1 g1 v1 w1 r4
  else
    if (v1 1) ≤ 0 then
      match gsY_X11_countUnit_1 NF v1 f1 w1 g1 with
      | (v113, f114, w115, g116) =>
        if 0 ≤ r4 then
          if 0 ≤ r4 then
            match gsY_X11_add_1 NF 1 r4 v113 f114 w115 g116 with
            | (v124, f125, w126, g127) =>
              match gsY_X11_token_1 NF v124 f125 w126 g127 with
              | (v133, f134, w135, g136) =>
                (v133, f134, w135, g136)
          else
            match gsY_X11_add_1 NF 1 (v113 7) v113 f114 w115 g116 with
            | (v143, f144, w145, g146) =>
              match gsY_X11_token_1 NF v143 f144 w145 g146 with
              | (v152, f153, w154, g155) =>
                (v152, f153, w154, g155)
        else
          if 0 ≤ r4 then
            match gsY_X11_add_1 NF 0 r4 v113 f114 w115 g116 with
            | (v163, f164, w165, g166) =>
              match gsY_X11_token_1 NF v163 f164 w165 g166 with
              | (v172, f173, w174, g175) =>
                (v172, f173, w174, g175)
          else
            match gsY_X11_add_1 NF 0 (v113 7) v113 f114 w115 g116 with
            | (v182, f183, w184, g185) =>
              match gsY_X11_token_1 NF v182 f183 w184 g185 with
              | (v191, f192, w193, g194) =>
                (v191, f192, w193, g194)
    else
      (v1, f1, w1, g1)
def gsY_X11_unit_1_J2 (NF : Nat) (f1 : Nat → Nat → Int32) (g1 : Nat → Int64) (v1 : Nat → Int32) (w1 : Int64) : (Nat → Int32) × (Nat → Nat → Int32) × (Int64) × (Nat → Int64) :=
  if (v1 1) ≤ 0 then
    let r4 : Int32 := gsY_X11_asked_1 NF v1 f1 w1 g1
    if (v1 5) = 2 then
      gsY_X11_unit_1_J107 NF f1 g1 v1 w1 r4
    else
      if r4 < 0 then
        gsY_X11_unit_1_J6 NF f1 g1 v1 w1 r4
      else
        gsY_X11_unit_1_J107 NF f1 g1 v1 w1 r4
  else
    (v1, f1, w1, g1)
def gsY_X11_unit_1_J204 (NF : Nat) (f1 : Nat → Nat → Int32) (g1 : Nat → Int64) (l1_1 : Int32) (v1 : Nat → Int32) (w1 : Int64) (k1 : Int32 → (Nat → Int32) → (Nat → Nat → Int32) → Int64 → (Nat → Int64) → ((Nat → Int32) × (Nat → Nat → Int32) × (Int64) × (Nat → Int64))) : (Nat → Int32) × (Nat → Nat → Int32) × (Int64) × (Nat → Int64) :=
  if (v1 5) = 40 then
    if gsY_X11_isFull_1 NF v1 f1 w1 g1 = 1 then
      match gsY_X11_wrong_1 NF 2 v1 f1 w1 g1 with
      | (v210, f211, w212, g213) =>
        match gsY_X11_countUnit_1 NF v210 f211 w212 g213 with
        | (v221, f222, w223, g224) =>
          match gsY_X11_openUp_1 NF 20 v221 f222 w223 g224 with
          | (v230, f231, w232, g233) =>
            k1 l1_1 v230 f231 w232 g233
    else
      if (v1 14) ≤ 6 then
        match gsY_X11_countUnit_1 NF v1 f1 w1 g1 with
        | (v243, f244, w245, g246) =>
          match gsY_X11_openUp_1 NF 20 v243 f244 w245 g246 with
          | (v252, f253, w254, g255) =>
            k1 l1_1 v252 f253 w254 g255
      else
        match gsY_X11_wrong_1 NF 2 v1 f1 w1 g1 with
        | (v264, f265, w266, g267) =>
          match gsY_X11_countUnit_1 NF v264 f265 w266 g267 with
          | (v275, f276, w277, g278) =>
            match gsY_X11_openUp_1 NF 20 v275 f276 w277 g278 with
            | (v284, f285, w286, g287) =>
              k1 l1_1 v284 f285 w286 g287
  else
    k1 0 v1 f1 w1 g1
def gsY_X11_unit_1_L1 (NF : Nat) : Nat → (Int32) → (Nat → Int32) → (Nat → Nat → Int32) → (Int64) → (Nat → Int64) → (Nat → Int32) × (Nat → Nat → Int32) × (Int64) × (Nat → Int64)
  | 0, _, _, _, _, _ => ((fun _ => 0), (fun _ _ => 0), 0, (fun _ => 0))
  | n1 + 1, l1_1, v1, f1, w1, g1 =>
    if l1_1 = 0 then
      gsY_X11_unit_1_J2 NF f1 g1 v1 w1
    else
      if (v1 1) = 0 then
        if gsY_X11_isWord_1 NF (7237492 : Int64) v1 f1 w1 g1 = 1 then
          if gsY_X11_mayNot_1 NF v1 f1 w1 g1 = 1 then
            if (v1 14) ≤ 6 then
              match gsY_X11_openUp_1 NF 21 v1 f1 w1 g1 with
              | (v303, f304, w305, g306) =>
                gsY_X11_unit_1_L1 NF n1 l1_1 v303 f304 w305 g306
            else
              match gsY_X11_wrong_1 NF 2 v1 f1 w1 g1 with
              | (v315, f316, w317, g318) =>
                match gsY_X11_openUp_1 NF 21 v315 f316 w317 g318 with
                | (v326, f327, w328, g329) =>
                  gsY_X11_unit_1_L1 NF n1 l1_1 v326 f327 w328 g329
          else
            gsY_X11_unit_1_J204 NF f1 g1 l1_1 v1 w1 (fun z0 z1 z2 z3 z4 => gsY_X11_unit_1_L1 NF n1 z0 z1 z2 z3 z4)
        else
          gsY_X11_unit_1_J204 NF f1 g1 l1_1 v1 w1 (fun z0 z1 z2 z3 z4 => gsY_X11_unit_1_L1 NF n1 z0 z1 z2 z3 z4)
      else
        gsY_X11_unit_1_J2 NF f1 g1 v1 w1
def gsY_X11_unit_1 (NF : Nat) (v : Nat → Int32) (f : Nat → Nat → Int32) (w : Int64) (g : Nat → Int64) : (Nat → Int32) × (Nat → Nat → Int32) × (Int64) × (Nat → Int64) :=
  gsY_X11_unit_1_L1 NF (4294967296 + NF) 1 v f w g
theorem gsY_X11_unit_1_q25 {NF : Nat} {v : Nat → Int32} {f : Nat → Nat → Int32} {w : Int64} {g : Nat → Int64}  : gsY_X11_unit_1 NF v f w g = gsY_X11_unit_1_L1 NF (4294967296 + NF) 1 v f w g := by
  simp only [gsY_X11_unit_1]
theorem gsY_X11_unit_1_q15 {NF : Nat} {n1 : Nat} {l1_1 : Int32} {v1 : Nat → Int32} {f1 : Nat → Nat → Int32} {w1 : Int64} {g1 : Nat → Int64} (h0 : (l1_1 = 0)) : gsY_X11_unit_1_L1 NF (n1 + 1) l1_1 v1 f1 w1 g1 = gsY_X11_unit_1_J2 NF f1 g1 v1 w1 := by
  simp only [gsY_X11_unit_1_L1, if_pos h0]
theorem gsY_X11_unit_1_q16 {NF : Nat} {n1 : Nat} {l1_1 : Int32} {v1 : Nat → Int32} {f1 : Nat → Nat → Int32} {w1 : Int64} {g1 : Nat → Int64} (h0 : ¬ (l1_1 = 0)) (h1 : ¬ ((v1 1) = 0)) : gsY_X11_unit_1_L1 NF (n1 + 1) l1_1 v1 f1 w1 g1 = gsY_X11_unit_1_J2 NF f1 g1 v1 w1 := by
  simp only [gsY_X11_unit_1_L1, if_neg h0, if_neg h1]
theorem gsY_X11_unit_1_q21 {NF : Nat} {n1 : Nat} {l1_1 : Int32} {v1 : Nat → Int32} {f1 : Nat → Nat → Int32} {w1 : Int64} {g1 : Nat → Int64} {v303 : Nat → Int32} {f304 : Nat → Nat → Int32} {w305 : Int64} {g306 : Nat → Int64} (h0 : ¬ (l1_1 = 0)) (h1 : ((v1 1) = 0)) (h2 : gsY_X11_isWord_1 NF (7237492 : Int64) v1 f1 w1 g1 = 1) (h3 : gsY_X11_mayNot_1 NF v1 f1 w1 g1 = 1) (h4 : ((v1 14) ≤ 6)) (h5 : gsY_X11_openUp_1 NF 21 v1 f1 w1 g1 = (v303, f304, w305, g306)) : gsY_X11_unit_1_L1 NF (n1 + 1) l1_1 v1 f1 w1 g1 = gsY_X11_unit_1_L1 NF n1 l1_1 v303 f304 w305 g306 := by
  simp only [gsY_X11_unit_1_L1, if_neg h0, if_pos h1, h2, h3, if_pos h4, h5, ite11, ite01, if_true, if_false]
theorem gsY_X11_unit_1_q22 {NF : Nat} {n1 : Nat} {l1_1 : Int32} {v1 : Nat → Int32} {f1 : Nat → Nat → Int32} {w1 : Int64} {g1 : Nat → Int64} {v315 : Nat → Int32} {f316 : Nat → Nat → Int32} {w317 : Int64} {g318 : Nat → Int64} {v326 : Nat → Int32} {f327 : Nat → Nat → Int32} {w328 : Int64} {g329 : Nat → Int64} (h0 : ¬ (l1_1 = 0)) (h1 : ((v1 1) = 0)) (h2 : gsY_X11_isWord_1 NF (7237492 : Int64) v1 f1 w1 g1 = 1) (h3 : gsY_X11_mayNot_1 NF v1 f1 w1 g1 = 1) (h4 : ¬ ((v1 14) ≤ 6)) (h5 : gsY_X11_wrong_1 NF 2 v1 f1 w1 g1 = (v315, f316, w317, g318)) (h6 : gsY_X11_openUp_1 NF 21 v315 f316 w317 g318 = (v326, f327, w328, g329)) : gsY_X11_unit_1_L1 NF (n1 + 1) l1_1 v1 f1 w1 g1 = gsY_X11_unit_1_L1 NF n1 l1_1 v326 f327 w328 g329 := by
  simp only [gsY_X11_unit_1_L1, if_neg h0, if_pos h1, h2, h3, if_neg h4, h5, h6, ite11, ite01, if_true, if_false]
theorem gsY_X11_unit_1_q23 {NF : Nat} {n1 : Nat} {l1_1 : Int32} {v1 : Nat → Int32} {f1 : Nat → Nat → Int32} {w1 : Int64} {g1 : Nat → Int64} (h0 : ¬ (l1_1 = 0)) (h1 : ((v1 1) = 0)) (h2 : gsY_X11_isWord_1 NF (7237492 : Int64) v1 f1 w1 g1 = 1) (h3 : gsY_X11_mayNot_1 NF v1 f1 w1 g1 = 0) : gsY_X11_unit_1_L1 NF (n1 + 1) l1_1 v1 f1 w1 g1 = gsY_X11_unit_1_J204 NF f1 g1 l1_1 v1 w1 (fun z0 z1 z2 z3 z4 => gsY_X11_unit_1_L1 NF n1 z0 z1 z2 z3 z4) := by
  simp only [gsY_X11_unit_1_L1, if_neg h0, if_pos h1, h2, h3, ite11, ite01, if_true, if_false]
theorem gsY_X11_unit_1_q24 {NF : Nat} {n1 : Nat} {l1_1 : Int32} {v1 : Nat → Int32} {f1 : Nat → Nat → Int32} {w1 : Int64} {g1 : Nat → Int64} (h0 : ¬ (l1_1 = 0)) (h1 : ((v1 1) = 0)) (h2 : gsY_X11_isWord_1 NF (7237492 : Int64) v1 f1 w1 g1 = 0) : gsY_X11_unit_1_L1 NF (n1 + 1) l1_1 v1 f1 w1 g1 = gsY_X11_unit_1_J204 NF f1 g1 l1_1 v1 w1 (fun z0 z1 z2 z3 z4 => gsY_X11_unit_1_L1 NF n1 z0 z1 z2 z3 z4) := by
  simp only [gsY_X11_unit_1_L1, if_neg h0, if_pos h1, h2, ite11, ite01, if_true, if_false]
theorem gsY_X11_unit_1_q11 {NF : Nat} {f1 : Nat → Nat → Int32} {g1 : Nat → Int64} {v1 : Nat → Int32} {w1 : Int64} {r4 : Int32} (h0 : ((v1 1) ≤ 0)) (h1 : r4 = gsY_X11_asked_1 NF v1 f1 w1 g1) (h2 : ((v1 5) = 2)) : gsY_X11_unit_1_J2 NF f1 g1 v1 w1 = gsY_X11_unit_1_J107 NF f1 g1 v1 w1 r4 := by
  subst h1
  simp only [gsY_X11_unit_1_J2, if_pos h0, if_pos h2]
theorem gsY_X11_unit_1_q12 {NF : Nat} {f1 : Nat → Nat → Int32} {g1 : Nat → Int64} {v1 : Nat → Int32} {w1 : Int64} {r4 : Int32} (h0 : ((v1 1) ≤ 0)) (h1 : r4 = gsY_X11_asked_1 NF v1 f1 w1 g1) (h2 : ¬ ((v1 5) = 2)) (h3 : (r4 < 0)) : gsY_X11_unit_1_J2 NF f1 g1 v1 w1 = gsY_X11_unit_1_J6 NF f1 g1 v1 w1 r4 := by
  subst h1
  simp only [gsY_X11_unit_1_J2, if_pos h0, if_neg h2, if_pos h3]
theorem gsY_X11_unit_1_q13 {NF : Nat} {f1 : Nat → Nat → Int32} {g1 : Nat → Int64} {v1 : Nat → Int32} {w1 : Int64} {r4 : Int32} (h0 : ((v1 1) ≤ 0)) (h1 : r4 = gsY_X11_asked_1 NF v1 f1 w1 g1) (h2 : ¬ ((v1 5) = 2)) (h3 : ¬ (r4 < 0)) : gsY_X11_unit_1_J2 NF f1 g1 v1 w1 = gsY_X11_unit_1_J107 NF f1 g1 v1 w1 r4 := by
  subst h1
  simp only [gsY_X11_unit_1_J2, if_pos h0, if_neg h2, if_neg h3]
theorem gsY_X11_unit_1_q14 {NF : Nat} {f1 : Nat → Nat → Int32} {g1 : Nat → Int64} {v1 : Nat → Int32} {w1 : Int64} (h0 : ¬ ((v1 1) ≤ 0)) : gsY_X11_unit_1_J2 NF f1 g1 v1 w1 = (v1, f1, w1, g1) := by
  simp only [gsY_X11_unit_1_J2, if_neg h0]
theorem gsY_X11_unit_1_q0 {NF : Nat} {f1 : Nat → Nat → Int32} {g1 : Nat → Int64} {v1 : Nat → Int32} {w1 : Int64} {r4 : Int32} {v8 : Nat → Int32} {f9 : Nat → Nat → Int32} {w10 : Int64} {g11 : Nat → Int64} {v20 : Nat → Int32} {f21 : Nat → Nat → Int32} {w22 : Int64} {g23 : Nat → Int64} {v31 : Nat → Int32} {f32 : Nat → Nat → Int32} {w33 : Int64} {g34 : Nat → Int64} {v40 : Nat → Int32} {f41 : Nat → Nat → Int32} {w42 : Int64} {g43 : Nat → Int64} (h0 : gsY_X11_wrong_1 NF 2 v1 f1 w1 g1 = (v8, f9, w10, g11)) (h1 : ((v8 1) ≤ 0)) (h2 : gsY_X11_countUnit_1 NF v8 f9 w10 g11 = (v20, f21, w22, g23)) (h3 : (0 ≤ r4)) (h4 : (0 ≤ r4)) (h5 : gsY_X11_add_1 NF 1 r4 v20 f21 w22 g23 = (v31, f32, w33, g34)) (h6 : gsY_X11_token_1 NF v31 f32 w33 g34 = (v40, f41, w42, g43)) : gsY_X11_unit_1_J6 NF f1 g1 v1 w1 r4 = (v40, f41, w42, g43) := by
  simp only [gsY_X11_unit_1_J6, h0, if_pos h1, h2, if_pos h3, if_pos h4, h5, h6]
theorem gsY_X11_unit_1_q1 {NF : Nat} {f1 : Nat → Nat → Int32} {g1 : Nat → Int64} {v1 : Nat → Int32} {w1 : Int64} {r4 : Int32} {v8 : Nat → Int32} {f9 : Nat → Nat → Int32} {w10 : Int64} {g11 : Nat → Int64} {v20 : Nat → Int32} {f21 : Nat → Nat → Int32} {w22 : Int64} {g23 : Nat → Int64} {v50 : Nat → Int32} {f51 : Nat → Nat → Int32} {w52 : Int64} {g53 : Nat → Int64} {v59 : Nat → Int32} {f60 : Nat → Nat → Int32} {w61 : Int64} {g62 : Nat → Int64} (h0 : gsY_X11_wrong_1 NF 2 v1 f1 w1 g1 = (v8, f9, w10, g11)) (h1 : ((v8 1) ≤ 0)) (h2 : gsY_X11_countUnit_1 NF v8 f9 w10 g11 = (v20, f21, w22, g23)) (h3 : (0 ≤ r4)) (h4 : ¬ (0 ≤ r4)) (h5 : gsY_X11_add_1 NF 1 (v20 7) v20 f21 w22 g23 = (v50, f51, w52, g53)) (h6 : gsY_X11_token_1 NF v50 f51 w52 g53 = (v59, f60, w61, g62)) : gsY_X11_unit_1_J6 NF f1 g1 v1 w1 r4 = (v59, f60, w61, g62) := by
  exact absurd h3 h4
theorem gsY_X11_unit_1_q2 {NF : Nat} {f1 : Nat → Nat → Int32} {g1 : Nat → Int64} {v1 : Nat → Int32} {w1 : Int64} {r4 : Int32} {v8 : Nat → Int32} {f9 : Nat → Nat → Int32} {w10 : Int64} {g11 : Nat → Int64} {v20 : Nat → Int32} {f21 : Nat → Nat → Int32} {w22 : Int64} {g23 : Nat → Int64} {v70 : Nat → Int32} {f71 : Nat → Nat → Int32} {w72 : Int64} {g73 : Nat → Int64} {v79 : Nat → Int32} {f80 : Nat → Nat → Int32} {w81 : Int64} {g82 : Nat → Int64} (h0 : gsY_X11_wrong_1 NF 2 v1 f1 w1 g1 = (v8, f9, w10, g11)) (h1 : ((v8 1) ≤ 0)) (h2 : gsY_X11_countUnit_1 NF v8 f9 w10 g11 = (v20, f21, w22, g23)) (h3 : ¬ (0 ≤ r4)) (h4 : (0 ≤ r4)) (h5 : gsY_X11_add_1 NF 0 r4 v20 f21 w22 g23 = (v70, f71, w72, g73)) (h6 : gsY_X11_token_1 NF v70 f71 w72 g73 = (v79, f80, w81, g82)) : gsY_X11_unit_1_J6 NF f1 g1 v1 w1 r4 = (v79, f80, w81, g82) := by
  exact absurd h4 h3
theorem gsY_X11_unit_1_q3 {NF : Nat} {f1 : Nat → Nat → Int32} {g1 : Nat → Int64} {v1 : Nat → Int32} {w1 : Int64} {r4 : Int32} {v8 : Nat → Int32} {f9 : Nat → Nat → Int32} {w10 : Int64} {g11 : Nat → Int64} {v20 : Nat → Int32} {f21 : Nat → Nat → Int32} {w22 : Int64} {g23 : Nat → Int64} {v89 : Nat → Int32} {f90 : Nat → Nat → Int32} {w91 : Int64} {g92 : Nat → Int64} {v98 : Nat → Int32} {f99 : Nat → Nat → Int32} {w100 : Int64} {g101 : Nat → Int64} (h0 : gsY_X11_wrong_1 NF 2 v1 f1 w1 g1 = (v8, f9, w10, g11)) (h1 : ((v8 1) ≤ 0)) (h2 : gsY_X11_countUnit_1 NF v8 f9 w10 g11 = (v20, f21, w22, g23)) (h3 : ¬ (0 ≤ r4)) (h4 : ¬ (0 ≤ r4)) (h5 : gsY_X11_add_1 NF 0 (v20 7) v20 f21 w22 g23 = (v89, f90, w91, g92)) (h6 : gsY_X11_token_1 NF v89 f90 w91 g92 = (v98, f99, w100, g101)) : gsY_X11_unit_1_J6 NF f1 g1 v1 w1 r4 = (v98, f99, w100, g101) := by
  simp only [gsY_X11_unit_1_J6, h0, if_pos h1, h2, if_neg h3, if_neg h4, h5, h6]
theorem gsY_X11_unit_1_q4 {NF : Nat} {f1 : Nat → Nat → Int32} {g1 : Nat → Int64} {v1 : Nat → Int32} {w1 : Int64} {r4 : Int32} {v8 : Nat → Int32} {f9 : Nat → Nat → Int32} {w10 : Int64} {g11 : Nat → Int64} (h0 : gsY_X11_wrong_1 NF 2 v1 f1 w1 g1 = (v8, f9, w10, g11)) (h1 : ¬ ((v8 1) ≤ 0)) : gsY_X11_unit_1_J6 NF f1 g1 v1 w1 r4 = (v8, f9, w10, g11) := by
  simp only [gsY_X11_unit_1_J6, h0, if_neg h1]
theorem gsY_X11_unit_1_q5 {NF : Nat} {f1 : Nat → Nat → Int32} {g1 : Nat → Int64} {v1 : Nat → Int32} {w1 : Int64} {r4 : Int32} (h0 : gsY_X11_isFull_1 NF v1 f1 w1 g1 = 1) : gsY_X11_unit_1_J107 NF f1 g1 v1 w1 r4 = gsY_X11_unit_1_J6 NF f1 g1 v1 w1 r4 := by
  simp only [gsY_X11_unit_1_J107, h0, ite11, ite01, if_true, if_false]
theorem gsY_X11_unit_1_q6 {NF : Nat} {f1 : Nat → Nat → Int32} {g1 : Nat → Int64} {v1 : Nat → Int32} {w1 : Int64} {r4 : Int32} {v113 : Nat → Int32} {f114 : Nat → Nat → Int32} {w115 : Int64} {g116 : Nat → Int64} {v124 : Nat → Int32} {f125 : Nat → Nat → Int32} {w126 : Int64} {g127 : Nat → Int64} {v133 : Nat → Int32} {f134 : Nat → Nat → Int32} {w135 : Int64} {g136 : Nat → Int64} (h0 : gsY_X11_isFull_1 NF v1 f1 w1 g1 = 0) (h1 : ((v1 1) ≤ 0)) (h2 : gsY_X11_countUnit_1 NF v1 f1 w1 g1 = (v113, f114, w115, g116)) (h3 : (0 ≤ r4)) (h4 : (0 ≤ r4)) (h5 : gsY_X11_add_1 NF 1 r4 v113 f114 w115 g116 = (v124, f125, w126, g127)) (h6 : gsY_X11_token_1 NF v124 f125 w126 g127 = (v133, f134, w135, g136)) : gsY_X11_unit_1_J107 NF f1 g1 v1 w1 r4 = (v133, f134, w135, g136) := by
  simp only [gsY_X11_unit_1_J107, h0, if_pos h1, h2, if_pos h3, if_pos h4, h5, h6, ite11, ite01, if_true, if_false]
theorem gsY_X11_unit_1_q7 {NF : Nat} {f1 : Nat → Nat → Int32} {g1 : Nat → Int64} {v1 : Nat → Int32} {w1 : Int64} {r4 : Int32} {v113 : Nat → Int32} {f114 : Nat → Nat → Int32} {w115 : Int64} {g116 : Nat → Int64} {v143 : Nat → Int32} {f144 : Nat → Nat → Int32} {w145 : Int64} {g146 : Nat → Int64} {v152 : Nat → Int32} {f153 : Nat → Nat → Int32} {w154 : Int64} {g155 : Nat → Int64} (h0 : gsY_X11_isFull_1 NF v1 f1 w1 g1 = 0) (h1 : ((v1 1) ≤ 0)) (h2 : gsY_X11_countUnit_1 NF v1 f1 w1 g1 = (v113, f114, w115, g116)) (h3 : (0 ≤ r4)) (h4 : ¬ (0 ≤ r4)) (h5 : gsY_X11_add_1 NF 1 (v113 7) v113 f114 w115 g116 = (v143, f144, w145, g146)) (h6 : gsY_X11_token_1 NF v143 f144 w145 g146 = (v152, f153, w154, g155)) : gsY_X11_unit_1_J107 NF f1 g1 v1 w1 r4 = (v152, f153, w154, g155) := by
  exact absurd h3 h4
theorem gsY_X11_unit_1_q8 {NF : Nat} {f1 : Nat → Nat → Int32} {g1 : Nat → Int64} {v1 : Nat → Int32} {w1 : Int64} {r4 : Int32} {v113 : Nat → Int32} {f114 : Nat → Nat → Int32} {w115 : Int64} {g116 : Nat → Int64} {v163 : Nat → Int32} {f164 : Nat → Nat → Int32} {w165 : Int64} {g166 : Nat → Int64} {v172 : Nat → Int32} {f173 : Nat → Nat → Int32} {w174 : Int64} {g175 : Nat → Int64} (h0 : gsY_X11_isFull_1 NF v1 f1 w1 g1 = 0) (h1 : ((v1 1) ≤ 0)) (h2 : gsY_X11_countUnit_1 NF v1 f1 w1 g1 = (v113, f114, w115, g116)) (h3 : ¬ (0 ≤ r4)) (h4 : (0 ≤ r4)) (h5 : gsY_X11_add_1 NF 0 r4 v113 f114 w115 g116 = (v163, f164, w165, g166)) (h6 : gsY_X11_token_1 NF v163 f164 w165 g166 = (v172, f173, w174, g175)) : gsY_X11_unit_1_J107 NF f1 g1 v1 w1 r4 = (v172, f173, w174, g175) := by
  exact absurd h4 h3
theorem gsY_X11_unit_1_q9 {NF : Nat} {f1 : Nat → Nat → Int32} {g1 : Nat → Int64} {v1 : Nat → Int32} {w1 : Int64} {r4 : Int32} {v113 : Nat → Int32} {f114 : Nat → Nat → Int32} {w115 : Int64} {g116 : Nat → Int64} {v182 : Nat → Int32} {f183 : Nat → Nat → Int32} {w184 : Int64} {g185 : Nat → Int64} {v191 : Nat → Int32} {f192 : Nat → Nat → Int32} {w193 : Int64} {g194 : Nat → Int64} (h0 : gsY_X11_isFull_1 NF v1 f1 w1 g1 = 0) (h1 : ((v1 1) ≤ 0)) (h2 : gsY_X11_countUnit_1 NF v1 f1 w1 g1 = (v113, f114, w115, g116)) (h3 : ¬ (0 ≤ r4)) (h4 : ¬ (0 ≤ r4)) (h5 : gsY_X11_add_1 NF 0 (v113 7) v113 f114 w115 g116 = (v182, f183, w184, g185)) (h6 : gsY_X11_token_1 NF v182 f183 w184 g185 = (v191, f192, w193, g194)) : gsY_X11_unit_1_J107 NF f1 g1 v1 w1 r4 = (v191, f192, w193, g194) := by
  simp only [gsY_X11_unit_1_J107, h0, if_pos h1, h2, if_neg h3, if_neg h4, h5, h6, ite11, ite01, if_true, if_false]
theorem gsY_X11_unit_1_q10 {NF : Nat} {f1 : Nat → Nat → Int32} {g1 : Nat → Int64} {v1 : Nat → Int32} {w1 : Int64} {r4 : Int32} (h0 : gsY_X11_isFull_1 NF v1 f1 w1 g1 = 0) (h1 : ¬ ((v1 1) ≤ 0)) : gsY_X11_unit_1_J107 NF f1 g1 v1 w1 r4 = (v1, f1, w1, g1) := by
  simp only [gsY_X11_unit_1_J107, h0, if_neg h1, ite11, ite01, if_true, if_false]
theorem gsY_X11_unit_1_q17 {NF : Nat} {f1 : Nat → Nat → Int32} {g1 : Nat → Int64} {l1_1 : Int32} {v1 : Nat → Int32} {w1 : Int64} {k1 : Int32 → (Nat → Int32) → (Nat → Nat → Int32) → Int64 → (Nat → Int64) → ((Nat → Int32) × (Nat → Nat → Int32) × (Int64) × (Nat → Int64))} (h0 : ¬ ((v1 5) = 40)) : gsY_X11_unit_1_J204 NF f1 g1 l1_1 v1 w1 k1 = k1 0 v1 f1 w1 g1 := by
  simp only [gsY_X11_unit_1_J204, if_neg h0]
theorem gsY_X11_unit_1_q18 {NF : Nat} {f1 : Nat → Nat → Int32} {g1 : Nat → Int64} {l1_1 : Int32} {v1 : Nat → Int32} {w1 : Int64} {v210 : Nat → Int32} {f211 : Nat → Nat → Int32} {w212 : Int64} {g213 : Nat → Int64} {v221 : Nat → Int32} {f222 : Nat → Nat → Int32} {w223 : Int64} {g224 : Nat → Int64} {v230 : Nat → Int32} {f231 : Nat → Nat → Int32} {w232 : Int64} {g233 : Nat → Int64} {k1 : Int32 → (Nat → Int32) → (Nat → Nat → Int32) → Int64 → (Nat → Int64) → ((Nat → Int32) × (Nat → Nat → Int32) × (Int64) × (Nat → Int64))} (h0 : ((v1 5) = 40)) (h1 : gsY_X11_isFull_1 NF v1 f1 w1 g1 = 1) (h2 : gsY_X11_wrong_1 NF 2 v1 f1 w1 g1 = (v210, f211, w212, g213)) (h3 : gsY_X11_countUnit_1 NF v210 f211 w212 g213 = (v221, f222, w223, g224)) (h4 : gsY_X11_openUp_1 NF 20 v221 f222 w223 g224 = (v230, f231, w232, g233)) : gsY_X11_unit_1_J204 NF f1 g1 l1_1 v1 w1 k1 = k1 l1_1 v230 f231 w232 g233 := by
  simp only [gsY_X11_unit_1_J204, if_pos h0, h1, h2, h3, h4, ite11, ite01, if_true, if_false]
theorem gsY_X11_unit_1_q19 {NF : Nat} {f1 : Nat → Nat → Int32} {g1 : Nat → Int64} {l1_1 : Int32} {v1 : Nat → Int32} {w1 : Int64} {v243 : Nat → Int32} {f244 : Nat → Nat → Int32} {w245 : Int64} {g246 : Nat → Int64} {v252 : Nat → Int32} {f253 : Nat → Nat → Int32} {w254 : Int64} {g255 : Nat → Int64} {k1 : Int32 → (Nat → Int32) → (Nat → Nat → Int32) → Int64 → (Nat → Int64) → ((Nat → Int32) × (Nat → Nat → Int32) × (Int64) × (Nat → Int64))} (h0 : ((v1 5) = 40)) (h1 : gsY_X11_isFull_1 NF v1 f1 w1 g1 = 0) (h2 : ((v1 14) ≤ 6)) (h3 : gsY_X11_countUnit_1 NF v1 f1 w1 g1 = (v243, f244, w245, g246)) (h4 : gsY_X11_openUp_1 NF 20 v243 f244 w245 g246 = (v252, f253, w254, g255)) : gsY_X11_unit_1_J204 NF f1 g1 l1_1 v1 w1 k1 = k1 l1_1 v252 f253 w254 g255 := by
  simp only [gsY_X11_unit_1_J204, if_pos h0, h1, if_pos h2, h3, h4, ite11, ite01, if_true, if_false]
theorem gsY_X11_unit_1_q20 {NF : Nat} {f1 : Nat → Nat → Int32} {g1 : Nat → Int64} {l1_1 : Int32} {v1 : Nat → Int32} {w1 : Int64} {v264 : Nat → Int32} {f265 : Nat → Nat → Int32} {w266 : Int64} {g267 : Nat → Int64} {v275 : Nat → Int32} {f276 : Nat → Nat → Int32} {w277 : Int64} {g278 : Nat → Int64} {v284 : Nat → Int32} {f285 : Nat → Nat → Int32} {w286 : Int64} {g287 : Nat → Int64} {k1 : Int32 → (Nat → Int32) → (Nat → Nat → Int32) → Int64 → (Nat → Int64) → ((Nat → Int32) × (Nat → Nat → Int32) × (Int64) × (Nat → Int64))} (h0 : ((v1 5) = 40)) (h1 : gsY_X11_isFull_1 NF v1 f1 w1 g1 = 0) (h2 : ¬ ((v1 14) ≤ 6)) (h3 : gsY_X11_wrong_1 NF 2 v1 f1 w1 g1 = (v264, f265, w266, g267)) (h4 : gsY_X11_countUnit_1 NF v264 f265 w266 g267 = (v275, f276, w277, g278)) (h5 : gsY_X11_openUp_1 NF 20 v275 f276 w277 g278 = (v284, f285, w286, g287)) : gsY_X11_unit_1_J204 NF f1 g1 l1_1 v1 w1 k1 = k1 l1_1 v284 f285 w286 g287 := by
  simp only [gsY_X11_unit_1_J204, if_pos h0, h1, if_neg h2, h3, h4, h5, ite11, ite01, if_true, if_false]
def gsY_X11_close_1_L1 (NF : Nat) (p1 : Int32) : Nat → (Nat → Int32) → (Nat → Nat → Int32) → (Int64) → (Nat → Int64) → (Nat → Int32) × (Nat → Nat → Int32) × (Int64) × (Nat → Int64)
  | 0, _, _, _, _ => ((fun _ => 0), (fun _ _ => 0), 0, (fun _ => 0))
  | n1 + 1, v1, f1, w1, g1 =>
    if (v1 10) ≤ 0 then
      (v1, f1, w1, g1)
    else
      let t3 : Int32 := (v1 10) - 1
      let t5 : Int32 := f1 6 (t3).toNatClampNeg
      if t5 = 20 then
        (v1, f1, w1, g1)
      else
        let r7 : Int32 := gsY_X11_tight_1 NF t5 v1 f1 w1 g1
        if r7 < p1 then
          (v1, f1, w1, g1)
        else
          if t5 = 21 then
            match gsY_X11_add_1 NF 2 0 (upd v1 10 t3) f1 w1 g1 with
            | (v25, f26, w27, g28) =>
              let t33 : Int32 := (v1 14) - 1
              gsY_X11_close_1_L1 NF p1 n1 (upd v25 14 t33) f26 w27 g28
          else
            match gsY_X11_add_1 NF 3 t5 (upd v1 10 t3) f1 w1 g1 with
            | (v16, f17, w18, g19) =>
              gsY_X11_close_1_L1 NF p1 n1 v16 f17 w18 g19
def gsY_X11_close_1 (NF : Nat) (p1 : Int32) (v : Nat → Int32) (f : Nat → Nat → Int32) (w : Int64) (g : Nat → Int64) : (Nat → Int32) × (Nat → Nat → Int32) × (Int64) × (Nat → Int64) :=
  gsY_X11_close_1_L1 NF p1 (4294967296 + NF) v f w g
theorem gsY_X11_close_1_q5 {NF : Nat} {p1 : Int32} {v : Nat → Int32} {f : Nat → Nat → Int32} {w : Int64} {g : Nat → Int64}  : gsY_X11_close_1 NF p1 v f w g = gsY_X11_close_1_L1 NF p1 (4294967296 + NF) v f w g := by
  simp only [gsY_X11_close_1]
theorem gsY_X11_close_1_q0 {NF : Nat} {p1 : Int32} {n1 : Nat} {v1 : Nat → Int32} {f1 : Nat → Nat → Int32} {w1 : Int64} {g1 : Nat → Int64} (h0 : ((v1 10) ≤ 0)) : gsY_X11_close_1_L1 NF p1 (n1 + 1) v1 f1 w1 g1 = (v1, f1, w1, g1) := by
  simp only [gsY_X11_close_1_L1, if_pos h0]
theorem gsY_X11_close_1_q1 {NF : Nat} {p1 : Int32} {n1 : Nat} {v1 : Nat → Int32} {f1 : Nat → Nat → Int32} {w1 : Int64} {g1 : Nat → Int64} {t3 : Int32} {t5 : Int32} (h0 : ¬ ((v1 10) ≤ 0)) (h1 : t3 = (v1 10) - 1) (h2 : t5 = f1 6 (t3).toNatClampNeg) (h3 : (t5 = 20)) : gsY_X11_close_1_L1 NF p1 (n1 + 1) v1 f1 w1 g1 = (v1, f1, w1, g1) := by
  subst h1 h2
  simp only [gsY_X11_close_1_L1, if_neg h0, if_pos h3]
theorem gsY_X11_close_1_q2 {NF : Nat} {p1 : Int32} {n1 : Nat} {v1 : Nat → Int32} {f1 : Nat → Nat → Int32} {w1 : Int64} {g1 : Nat → Int64} {t3 : Int32} {t5 : Int32} {r7 : Int32} (h0 : ¬ ((v1 10) ≤ 0)) (h1 : t3 = (v1 10) - 1) (h2 : t5 = f1 6 (t3).toNatClampNeg) (h3 : ¬ (t5 = 20)) (h4 : r7 = gsY_X11_tight_1 NF t5 v1 f1 w1 g1) (h5 : (r7 < p1)) : gsY_X11_close_1_L1 NF p1 (n1 + 1) v1 f1 w1 g1 = (v1, f1, w1, g1) := by
  subst h1 h2 h4
  simp only [gsY_X11_close_1_L1, if_neg h0, if_neg h3, if_pos h5]
theorem gsY_X11_close_1_q3 {NF : Nat} {p1 : Int32} {n1 : Nat} {v1 : Nat → Int32} {f1 : Nat → Nat → Int32} {w1 : Int64} {g1 : Nat → Int64} {t3 : Int32} {t5 : Int32} {r7 : Int32} {v16 : Nat → Int32} {f17 : Nat → Nat → Int32} {w18 : Int64} {g19 : Nat → Int64} (h0 : ¬ ((v1 10) ≤ 0)) (h1 : t3 = (v1 10) - 1) (h2 : t5 = f1 6 (t3).toNatClampNeg) (h3 : ¬ (t5 = 20)) (h4 : r7 = gsY_X11_tight_1 NF t5 v1 f1 w1 g1) (h5 : ¬ (r7 < p1)) (h6 : ¬ (t5 = 21)) (h7 : gsY_X11_add_1 NF 3 t5 (upd v1 10 t3) f1 w1 g1 = (v16, f17, w18, g19)) : gsY_X11_close_1_L1 NF p1 (n1 + 1) v1 f1 w1 g1 = gsY_X11_close_1_L1 NF p1 n1 v16 f17 w18 g19 := by
  subst h1 h2 h4
  simp only [gsY_X11_close_1_L1, if_neg h0, if_neg h3, if_neg h5, if_neg h6, h7]
theorem gsY_X11_close_1_q4 {NF : Nat} {p1 : Int32} {n1 : Nat} {v1 : Nat → Int32} {f1 : Nat → Nat → Int32} {w1 : Int64} {g1 : Nat → Int64} {t3 : Int32} {t5 : Int32} {r7 : Int32} {v25 : Nat → Int32} {f26 : Nat → Nat → Int32} {w27 : Int64} {g28 : Nat → Int64} {t33 : Int32} (h0 : ¬ ((v1 10) ≤ 0)) (h1 : t3 = (v1 10) - 1) (h2 : t5 = f1 6 (t3).toNatClampNeg) (h3 : ¬ (t5 = 20)) (h4 : r7 = gsY_X11_tight_1 NF t5 v1 f1 w1 g1) (h5 : ¬ (r7 < p1)) (h6 : (t5 = 21)) (h7 : gsY_X11_add_1 NF 2 0 (upd v1 10 t3) f1 w1 g1 = (v25, f26, w27, g28)) (h8 : t33 = (v1 14) - 1) : gsY_X11_close_1_L1 NF p1 (n1 + 1) v1 f1 w1 g1 = gsY_X11_close_1_L1 NF p1 n1 (upd v25 14 t33) f26 w27 g28 := by
  subst h1 h2 h4 h8
  simp only [gsY_X11_close_1_L1, if_neg h0, if_neg h3, if_neg h5, if_pos h6, h7]
def gsY_X11_hasBracket_1_L1 (NF : Nat) (v : Nat → Int32) (f : Nat → Nat → Int32) : Nat → (Int32) → (Int32) → Int32
  | 0, _, _ => 0
  | n1 + 1, l1_1, l2_1 =>
    if (v 10) ≤ l2_1 then
      l1_1
    else
      if l1_1 = 0 then
        let t11 : Int32 := f 6 (l2_1).toNatClampNeg
        if t11 = 20 then
          let t15 : Int32 := l2_1 + 1
          gsY_X11_hasBracket_1_L1 NF v f n1 1 t15
        else
          let t13 : Int32 := l2_1 + 1
          gsY_X11_hasBracket_1_L1 NF v f n1 0 t13
      else
        let t9 : Int32 := l2_1 + 1
        gsY_X11_hasBracket_1_L1 NF v f n1 1 t9
def gsY_X11_hasBracket_1 (NF : Nat) (v : Nat → Int32) (f : Nat → Nat → Int32) (w : Int64) (g : Nat → Int64) : Int32 :=
  gsY_X11_hasBracket_1_L1 NF v f (4294967296 + NF) 0 0
theorem gsY_X11_hasBracket_1_q4 {NF : Nat} {v : Nat → Int32} {f : Nat → Nat → Int32} {w : Int64} {g : Nat → Int64}  : gsY_X11_hasBracket_1 NF v f w g = gsY_X11_hasBracket_1_L1 NF v f (4294967296 + NF) 0 0 := by
  simp only [gsY_X11_hasBracket_1]
theorem gsY_X11_hasBracket_1_q0 {NF : Nat} {v : Nat → Int32} {f : Nat → Nat → Int32} {n1 : Nat} {l1_1 : Int32} {l2_1 : Int32} (h0 : ((v 10) ≤ l2_1)) : gsY_X11_hasBracket_1_L1 NF v f (n1 + 1) l1_1 l2_1 = l1_1 := by
  simp only [gsY_X11_hasBracket_1_L1, if_pos h0]
theorem gsY_X11_hasBracket_1_q1 {NF : Nat} {v : Nat → Int32} {f : Nat → Nat → Int32} {n1 : Nat} {l1_1 : Int32} {l2_1 : Int32} {t9 : Int32} (h0 : ¬ ((v 10) ≤ l2_1)) (h1 : ¬ (l1_1 = 0)) (h2 : t9 = l2_1 + 1) : gsY_X11_hasBracket_1_L1 NF v f (n1 + 1) l1_1 l2_1 = gsY_X11_hasBracket_1_L1 NF v f n1 1 t9 := by
  subst h2
  simp only [gsY_X11_hasBracket_1_L1, if_neg h0, if_neg h1]
theorem gsY_X11_hasBracket_1_q2 {NF : Nat} {v : Nat → Int32} {f : Nat → Nat → Int32} {n1 : Nat} {l1_1 : Int32} {l2_1 : Int32} {t11 : Int32} {t13 : Int32} (h0 : ¬ ((v 10) ≤ l2_1)) (h1 : (l1_1 = 0)) (h2 : t11 = f 6 (l2_1).toNatClampNeg) (h3 : ¬ (t11 = 20)) (h4 : t13 = l2_1 + 1) : gsY_X11_hasBracket_1_L1 NF v f (n1 + 1) l1_1 l2_1 = gsY_X11_hasBracket_1_L1 NF v f n1 0 t13 := by
  subst h2 h4
  simp only [gsY_X11_hasBracket_1_L1, if_neg h0, if_pos h1, if_neg h3]
theorem gsY_X11_hasBracket_1_q3 {NF : Nat} {v : Nat → Int32} {f : Nat → Nat → Int32} {n1 : Nat} {l1_1 : Int32} {l2_1 : Int32} {t11 : Int32} {t15 : Int32} (h0 : ¬ ((v 10) ≤ l2_1)) (h1 : (l1_1 = 0)) (h2 : t11 = f 6 (l2_1).toNatClampNeg) (h3 : (t11 = 20)) (h4 : t15 = l2_1 + 1) : gsY_X11_hasBracket_1_L1 NF v f (n1 + 1) l1_1 l2_1 = gsY_X11_hasBracket_1_L1 NF v f n1 1 t15 := by
  subst h2 h4
  simp only [gsY_X11_hasBracket_1_L1, if_neg h0, if_pos h1, if_pos h3]
def gsY_X11_sign_1 (NF : Nat) (v : Nat → Int32) (f : Nat → Nat → Int32) (w : Int64) (g : Nat → Int64) : Int32 :=
  if gsY_X11_isWord_1 NF (6385252 : Int64) v f w g = 1 then
    38
  else
    if gsY_X11_isWord_1 NF (28530 : Int64) v f w g = 1 then
      124
    else
      if (v 5) = 60 then
        (v 5)
      else
        if (v 5) = 62 then
          (v 5)
        else
          if (v 5) = 61 then
            (v 5)
          else
            if (v 5) = 43 then
              (v 5)
            else
              if (v 5) = 45 then
                (v 5)
              else
                if (v 5) = 42 then
                  (v 5)
                else
                  if (v 5) = 47 then
                    (v 5)
                  else
                    if (v 5) = 37 then
                      (v 5)
                    else
                      0
theorem gsY_X11_sign_1_q0 {NF : Nat} {v : Nat → Int32} {f : Nat → Nat → Int32} {w : Int64} {g : Nat → Int64} (h0 : gsY_X11_isWord_1 NF (6385252 : Int64) v f w g = 1) : gsY_X11_sign_1 NF v f w g = 38 := by
  simp only [gsY_X11_sign_1, h0, ite11, ite01, if_true, if_false]
theorem gsY_X11_sign_1_q1 {NF : Nat} {v : Nat → Int32} {f : Nat → Nat → Int32} {w : Int64} {g : Nat → Int64} (h0 : gsY_X11_isWord_1 NF (6385252 : Int64) v f w g = 0) (h1 : gsY_X11_isWord_1 NF (28530 : Int64) v f w g = 1) : gsY_X11_sign_1 NF v f w g = 124 := by
  simp only [gsY_X11_sign_1, h0, h1, ite11, ite01, if_true, if_false]
theorem gsY_X11_sign_1_q2 {NF : Nat} {v : Nat → Int32} {f : Nat → Nat → Int32} {w : Int64} {g : Nat → Int64} (h0 : gsY_X11_isWord_1 NF (6385252 : Int64) v f w g = 0) (h1 : gsY_X11_isWord_1 NF (28530 : Int64) v f w g = 0) (h2 : ((v 5) = 60)) : gsY_X11_sign_1 NF v f w g = (v 5) := by
  simp only [gsY_X11_sign_1, h0, h1, if_pos h2, ite11, ite01, if_true, if_false]
theorem gsY_X11_sign_1_q3 {NF : Nat} {v : Nat → Int32} {f : Nat → Nat → Int32} {w : Int64} {g : Nat → Int64} (h0 : gsY_X11_isWord_1 NF (6385252 : Int64) v f w g = 0) (h1 : gsY_X11_isWord_1 NF (28530 : Int64) v f w g = 0) (h2 : ¬ ((v 5) = 60)) (h3 : ((v 5) = 62)) : gsY_X11_sign_1 NF v f w g = (v 5) := by
  simp only [gsY_X11_sign_1, h0, h1, if_neg h2, if_pos h3, ite11, ite01, if_true, if_false]
theorem gsY_X11_sign_1_q4 {NF : Nat} {v : Nat → Int32} {f : Nat → Nat → Int32} {w : Int64} {g : Nat → Int64} (h0 : gsY_X11_isWord_1 NF (6385252 : Int64) v f w g = 0) (h1 : gsY_X11_isWord_1 NF (28530 : Int64) v f w g = 0) (h2 : ¬ ((v 5) = 60)) (h3 : ¬ ((v 5) = 62)) (h4 : ((v 5) = 61)) : gsY_X11_sign_1 NF v f w g = (v 5) := by
  simp only [gsY_X11_sign_1, h0, h1, if_neg h2, if_neg h3, if_pos h4, ite11, ite01, if_true, if_false]
theorem gsY_X11_sign_1_q5 {NF : Nat} {v : Nat → Int32} {f : Nat → Nat → Int32} {w : Int64} {g : Nat → Int64} (h0 : gsY_X11_isWord_1 NF (6385252 : Int64) v f w g = 0) (h1 : gsY_X11_isWord_1 NF (28530 : Int64) v f w g = 0) (h2 : ¬ ((v 5) = 60)) (h3 : ¬ ((v 5) = 62)) (h4 : ¬ ((v 5) = 61)) (h5 : ((v 5) = 43)) : gsY_X11_sign_1 NF v f w g = (v 5) := by
  simp only [gsY_X11_sign_1, h0, h1, if_neg h2, if_neg h3, if_neg h4, if_pos h5, ite11, ite01, if_true, if_false]
theorem gsY_X11_sign_1_q6 {NF : Nat} {v : Nat → Int32} {f : Nat → Nat → Int32} {w : Int64} {g : Nat → Int64} (h0 : gsY_X11_isWord_1 NF (6385252 : Int64) v f w g = 0) (h1 : gsY_X11_isWord_1 NF (28530 : Int64) v f w g = 0) (h2 : ¬ ((v 5) = 60)) (h3 : ¬ ((v 5) = 62)) (h4 : ¬ ((v 5) = 61)) (h5 : ¬ ((v 5) = 43)) (h6 : ((v 5) = 45)) : gsY_X11_sign_1 NF v f w g = (v 5) := by
  simp only [gsY_X11_sign_1, h0, h1, if_neg h2, if_neg h3, if_neg h4, if_neg h5, if_pos h6, ite11, ite01, if_true, if_false]
theorem gsY_X11_sign_1_q7 {NF : Nat} {v : Nat → Int32} {f : Nat → Nat → Int32} {w : Int64} {g : Nat → Int64} (h0 : gsY_X11_isWord_1 NF (6385252 : Int64) v f w g = 0) (h1 : gsY_X11_isWord_1 NF (28530 : Int64) v f w g = 0) (h2 : ¬ ((v 5) = 60)) (h3 : ¬ ((v 5) = 62)) (h4 : ¬ ((v 5) = 61)) (h5 : ¬ ((v 5) = 43)) (h6 : ¬ ((v 5) = 45)) (h7 : ((v 5) = 42)) : gsY_X11_sign_1 NF v f w g = (v 5) := by
  simp only [gsY_X11_sign_1, h0, h1, if_neg h2, if_neg h3, if_neg h4, if_neg h5, if_neg h6, if_pos h7, ite11, ite01, if_true, if_false]
theorem gsY_X11_sign_1_q8 {NF : Nat} {v : Nat → Int32} {f : Nat → Nat → Int32} {w : Int64} {g : Nat → Int64} (h0 : gsY_X11_isWord_1 NF (6385252 : Int64) v f w g = 0) (h1 : gsY_X11_isWord_1 NF (28530 : Int64) v f w g = 0) (h2 : ¬ ((v 5) = 60)) (h3 : ¬ ((v 5) = 62)) (h4 : ¬ ((v 5) = 61)) (h5 : ¬ ((v 5) = 43)) (h6 : ¬ ((v 5) = 45)) (h7 : ¬ ((v 5) = 42)) (h8 : ((v 5) = 47)) : gsY_X11_sign_1 NF v f w g = (v 5) := by
  simp only [gsY_X11_sign_1, h0, h1, if_neg h2, if_neg h3, if_neg h4, if_neg h5, if_neg h6, if_neg h7, if_pos h8, ite11, ite01, if_true, if_false]
theorem gsY_X11_sign_1_q9 {NF : Nat} {v : Nat → Int32} {f : Nat → Nat → Int32} {w : Int64} {g : Nat → Int64} (h0 : gsY_X11_isWord_1 NF (6385252 : Int64) v f w g = 0) (h1 : gsY_X11_isWord_1 NF (28530 : Int64) v f w g = 0) (h2 : ¬ ((v 5) = 60)) (h3 : ¬ ((v 5) = 62)) (h4 : ¬ ((v 5) = 61)) (h5 : ¬ ((v 5) = 43)) (h6 : ¬ ((v 5) = 45)) (h7 : ¬ ((v 5) = 42)) (h8 : ¬ ((v 5) = 47)) (h9 : ¬ ((v 5) = 37)) : gsY_X11_sign_1 NF v f w g = 0 := by
  simp only [gsY_X11_sign_1, h0, h1, if_neg h2, if_neg h3, if_neg h4, if_neg h5, if_neg h6, if_neg h7, if_neg h8, if_neg h9, ite11, ite01, if_true, if_false]
theorem gsY_X11_sign_1_q10 {NF : Nat} {v : Nat → Int32} {f : Nat → Nat → Int32} {w : Int64} {g : Nat → Int64} (h0 : gsY_X11_isWord_1 NF (6385252 : Int64) v f w g = 0) (h1 : gsY_X11_isWord_1 NF (28530 : Int64) v f w g = 0) (h2 : ¬ ((v 5) = 60)) (h3 : ¬ ((v 5) = 62)) (h4 : ¬ ((v 5) = 61)) (h5 : ¬ ((v 5) = 43)) (h6 : ¬ ((v 5) = 45)) (h7 : ¬ ((v 5) = 42)) (h8 : ¬ ((v 5) = 47)) (h9 : ((v 5) = 37)) : gsY_X11_sign_1 NF v f w g = (v 5) := by
  simp only [gsY_X11_sign_1, h0, h1, if_neg h2, if_neg h3, if_neg h4, if_neg h5, if_neg h6, if_neg h7, if_neg h8, if_pos h9, ite11, ite01, if_true, if_false]
def gsY_X11_hasRelation_1_L3 (NF : Nat) (v : Nat → Int32) (f : Nat → Nat → Int32) (w : Int64) (g : Nat → Int64) : Nat → (Int32) → Int32
  | 0, _ => 0
  | n3 + 1, l1_3 =>
    if l1_3 < 0 then
      if l1_3 < 0 then
        0
      else
        let t6 : Int32 := f 6 (l1_3).toNatClampNeg
        if t6 = 20 then
          0
        else
          let r8 : Int32 := gsY_X11_tight_1 NF t6 v f w g
          if r8 = 4 then
            1
          else
            0
    else
      let t11 : Int32 := f 6 (l1_3).toNatClampNeg
      if t11 = 20 then
        if l1_3 < 0 then
          0
        else
          if t11 = 20 then
            0
          else
            let r15 : Int32 := gsY_X11_tight_1 NF t11 v f w g
            if r15 = 4 then
              1
            else
              0
      else
        let r18 : Int32 := gsY_X11_tight_1 NF t11 v f w g
        if r18 ≤ 4 then
          if l1_3 < 0 then
            0
          else
            if t11 = 20 then
              0
            else
              let r23 : Int32 := gsY_X11_tight_1 NF t11 v f w g
              if r23 = 4 then
                1
              else
                0
        else
          let t26 : Int32 := l1_3 + (-1)
          gsY_X11_hasRelation_1_L3 NF v f w g n3 t26
def gsY_X11_hasRelation_1 (NF : Nat) (v : Nat → Int32) (f : Nat → Nat → Int32) (w : Int64) (g : Nat → Int64) : Int32 :=
  let t1 : Int32 := (v 10) - 1
  gsY_X11_hasRelation_1_L3 NF v f w g (4294967296 + NF) t1
theorem gsY_X11_hasRelation_1_q13 {NF : Nat} {v : Nat → Int32} {f : Nat → Nat → Int32} {w : Int64} {g : Nat → Int64} {t1 : Int32} (h0 : t1 = (v 10) - 1) : gsY_X11_hasRelation_1 NF v f w g = gsY_X11_hasRelation_1_L3 NF v f w g (4294967296 + NF) t1 := by
  subst h0
  simp only [gsY_X11_hasRelation_1]
theorem gsY_X11_hasRelation_1_q0 {NF : Nat} {v : Nat → Int32} {f : Nat → Nat → Int32} {w : Int64} {g : Nat → Int64} {n3 : Nat} {l1_3 : Int32} (h0 : (l1_3 < 0)) (h1 : (l1_3 < 0)) : gsY_X11_hasRelation_1_L3 NF v f w g (n3 + 1) l1_3 = 0 := by
  simp only [gsY_X11_hasRelation_1_L3, if_pos h0, if_pos h1]
theorem gsY_X11_hasRelation_1_q1 {NF : Nat} {v : Nat → Int32} {f : Nat → Nat → Int32} {w : Int64} {g : Nat → Int64} {n3 : Nat} {l1_3 : Int32} {t6 : Int32} (h0 : (l1_3 < 0)) (h1 : ¬ (l1_3 < 0)) (h2 : t6 = f 6 (l1_3).toNatClampNeg) (h3 : (t6 = 20)) : gsY_X11_hasRelation_1_L3 NF v f w g (n3 + 1) l1_3 = 0 := by
  exact absurd h0 h1
theorem gsY_X11_hasRelation_1_q2 {NF : Nat} {v : Nat → Int32} {f : Nat → Nat → Int32} {w : Int64} {g : Nat → Int64} {n3 : Nat} {l1_3 : Int32} {t6 : Int32} {r8 : Int32} (h0 : (l1_3 < 0)) (h1 : ¬ (l1_3 < 0)) (h2 : t6 = f 6 (l1_3).toNatClampNeg) (h3 : ¬ (t6 = 20)) (h4 : r8 = gsY_X11_tight_1 NF t6 v f w g) (h5 : ¬ (r8 = 4)) : gsY_X11_hasRelation_1_L3 NF v f w g (n3 + 1) l1_3 = 0 := by
  exact absurd h0 h1
theorem gsY_X11_hasRelation_1_q3 {NF : Nat} {v : Nat → Int32} {f : Nat → Nat → Int32} {w : Int64} {g : Nat → Int64} {n3 : Nat} {l1_3 : Int32} {t6 : Int32} {r8 : Int32} (h0 : (l1_3 < 0)) (h1 : ¬ (l1_3 < 0)) (h2 : t6 = f 6 (l1_3).toNatClampNeg) (h3 : ¬ (t6 = 20)) (h4 : r8 = gsY_X11_tight_1 NF t6 v f w g) (h5 : (r8 = 4)) : gsY_X11_hasRelation_1_L3 NF v f w g (n3 + 1) l1_3 = 1 := by
  exact absurd h0 h1
theorem gsY_X11_hasRelation_1_q4 {NF : Nat} {v : Nat → Int32} {f : Nat → Nat → Int32} {w : Int64} {g : Nat → Int64} {n3 : Nat} {l1_3 : Int32} {t11 : Int32} (h0 : ¬ (l1_3 < 0)) (h1 : t11 = f 6 (l1_3).toNatClampNeg) (h2 : (t11 = 20)) (h3 : (l1_3 < 0)) : gsY_X11_hasRelation_1_L3 NF v f w g (n3 + 1) l1_3 = 0 := by
  exact absurd h3 h0
theorem gsY_X11_hasRelation_1_q5 {NF : Nat} {v : Nat → Int32} {f : Nat → Nat → Int32} {w : Int64} {g : Nat → Int64} {n3 : Nat} {l1_3 : Int32} {t11 : Int32} (h0 : ¬ (l1_3 < 0)) (h1 : t11 = f 6 (l1_3).toNatClampNeg) (h2 : (t11 = 20)) (h3 : ¬ (l1_3 < 0)) (h4 : (t11 = 20)) : gsY_X11_hasRelation_1_L3 NF v f w g (n3 + 1) l1_3 = 0 := by
  subst h1
  simp only [gsY_X11_hasRelation_1_L3, if_neg h0, if_pos h2, if_neg h3, if_pos h4]
theorem gsY_X11_hasRelation_1_q6 {NF : Nat} {v : Nat → Int32} {f : Nat → Nat → Int32} {w : Int64} {g : Nat → Int64} {n3 : Nat} {l1_3 : Int32} {t11 : Int32} {r15 : Int32} (h0 : ¬ (l1_3 < 0)) (h1 : t11 = f 6 (l1_3).toNatClampNeg) (h2 : (t11 = 20)) (h3 : ¬ (l1_3 < 0)) (h4 : ¬ (t11 = 20)) (h5 : r15 = gsY_X11_tight_1 NF t11 v f w g) (h6 : ¬ (r15 = 4)) : gsY_X11_hasRelation_1_L3 NF v f w g (n3 + 1) l1_3 = 0 := by
  exact absurd h2 h4
theorem gsY_X11_hasRelation_1_q7 {NF : Nat} {v : Nat → Int32} {f : Nat → Nat → Int32} {w : Int64} {g : Nat → Int64} {n3 : Nat} {l1_3 : Int32} {t11 : Int32} {r15 : Int32} (h0 : ¬ (l1_3 < 0)) (h1 : t11 = f 6 (l1_3).toNatClampNeg) (h2 : (t11 = 20)) (h3 : ¬ (l1_3 < 0)) (h4 : ¬ (t11 = 20)) (h5 : r15 = gsY_X11_tight_1 NF t11 v f w g) (h6 : (r15 = 4)) : gsY_X11_hasRelation_1_L3 NF v f w g (n3 + 1) l1_3 = 1 := by
  exact absurd h2 h4
theorem gsY_X11_hasRelation_1_q8 {NF : Nat} {v : Nat → Int32} {f : Nat → Nat → Int32} {w : Int64} {g : Nat → Int64} {n3 : Nat} {l1_3 : Int32} {t11 : Int32} {r18 : Int32} (h0 : ¬ (l1_3 < 0)) (h1 : t11 = f 6 (l1_3).toNatClampNeg) (h2 : ¬ (t11 = 20)) (h3 : r18 = gsY_X11_tight_1 NF t11 v f w g) (h4 : (r18 ≤ 4)) (h5 : (l1_3 < 0)) : gsY_X11_hasRelation_1_L3 NF v f w g (n3 + 1) l1_3 = 0 := by
  exact absurd h5 h0
theorem gsY_X11_hasRelation_1_q9 {NF : Nat} {v : Nat → Int32} {f : Nat → Nat → Int32} {w : Int64} {g : Nat → Int64} {n3 : Nat} {l1_3 : Int32} {t11 : Int32} {r18 : Int32} (h0 : ¬ (l1_3 < 0)) (h1 : t11 = f 6 (l1_3).toNatClampNeg) (h2 : ¬ (t11 = 20)) (h3 : r18 = gsY_X11_tight_1 NF t11 v f w g) (h4 : (r18 ≤ 4)) (h5 : ¬ (l1_3 < 0)) (h6 : (t11 = 20)) : gsY_X11_hasRelation_1_L3 NF v f w g (n3 + 1) l1_3 = 0 := by
  exact absurd h6 h2
theorem gsY_X11_hasRelation_1_q10 {NF : Nat} {v : Nat → Int32} {f : Nat → Nat → Int32} {w : Int64} {g : Nat → Int64} {n3 : Nat} {l1_3 : Int32} {t11 : Int32} {r18 : Int32} {r23 : Int32} (h0 : ¬ (l1_3 < 0)) (h1 : t11 = f 6 (l1_3).toNatClampNeg) (h2 : ¬ (t11 = 20)) (h3 : r18 = gsY_X11_tight_1 NF t11 v f w g) (h4 : (r18 ≤ 4)) (h5 : ¬ (l1_3 < 0)) (h6 : ¬ (t11 = 20)) (h7 : r23 = gsY_X11_tight_1 NF t11 v f w g) (h8 : ¬ (r23 = 4)) : gsY_X11_hasRelation_1_L3 NF v f w g (n3 + 1) l1_3 = 0 := by
  subst h1 h3 h7
  simp only [gsY_X11_hasRelation_1_L3, if_neg h0, if_neg h2, if_pos h4, if_neg h5, if_neg h6, if_neg h8]
theorem gsY_X11_hasRelation_1_q11 {NF : Nat} {v : Nat → Int32} {f : Nat → Nat → Int32} {w : Int64} {g : Nat → Int64} {n3 : Nat} {l1_3 : Int32} {t11 : Int32} {r18 : Int32} {r23 : Int32} (h0 : ¬ (l1_3 < 0)) (h1 : t11 = f 6 (l1_3).toNatClampNeg) (h2 : ¬ (t11 = 20)) (h3 : r18 = gsY_X11_tight_1 NF t11 v f w g) (h4 : (r18 ≤ 4)) (h5 : ¬ (l1_3 < 0)) (h6 : ¬ (t11 = 20)) (h7 : r23 = gsY_X11_tight_1 NF t11 v f w g) (h8 : (r23 = 4)) : gsY_X11_hasRelation_1_L3 NF v f w g (n3 + 1) l1_3 = 1 := by
  subst h1 h3 h7
  simp only [gsY_X11_hasRelation_1_L3, if_neg h0, if_neg h2, if_pos h4, if_neg h5, if_neg h6, if_pos h8]
theorem gsY_X11_hasRelation_1_q12 {NF : Nat} {v : Nat → Int32} {f : Nat → Nat → Int32} {w : Int64} {g : Nat → Int64} {n3 : Nat} {l1_3 : Int32} {t11 : Int32} {r18 : Int32} {t26 : Int32} (h0 : ¬ (l1_3 < 0)) (h1 : t11 = f 6 (l1_3).toNatClampNeg) (h2 : ¬ (t11 = 20)) (h3 : r18 = gsY_X11_tight_1 NF t11 v f w g) (h4 : ¬ (r18 ≤ 4)) (h5 : t26 = l1_3 + (-1)) : gsY_X11_hasRelation_1_L3 NF v f w g (n3 + 1) l1_3 = gsY_X11_hasRelation_1_L3 NF v f w g n3 t26 := by
  subst h1 h3 h5
  simp only [gsY_X11_hasRelation_1_L3, if_neg h0, if_neg h2, if_neg h4]
def gsY_X11_formula_1_J22 (NF : Nat) (f20 : Nat → Nat → Int32) (g20 : Nat → Int64) (v20 : Nat → Int32) (w20 : Int64) : (Nat → Int32) × (Nat → Nat → Int32) × (Int64) × (Nat → Int64) :=
  if (v20 1) = 0 then
    match gsY_X11_close_1 NF 0 v20 f20 w20 g20 with
    | (v25, f26, w27, g28) =>
      (v25, f26, w27, g28)
  else
    (v20, f20, w20, g20)
def gsY_X11_formula_1_J21 (NF : Nat) (f20 : Nat → Nat → Int32) (g20 : Nat → Int64) (v20 : Nat → Int32) (w20 : Int64) : (Nat → Int32) × (Nat → Nat → Int32) × (Int64) × (Nat → Int64) :=
  if (v20 1) = 0 then
    if gsY_X11_hasBracket_1 NF v20 f20 w20 g20 = 1 then
      match gsY_X11_wrong_1 NF 2 v20 f20 w20 g20 with
      | (v42, f43, w44, g45) =>
        if (v42 1) = 0 then
          match gsY_X11_close_1 NF 0 v42 f43 w44 g45 with
          | (v54, f55, w56, g57) =>
            (v54, f55, w56, g57)
        else
          (v42, f43, w44, g45)
    else
      gsY_X11_formula_1_J22 NF f20 g20 v20 w20
  else
    gsY_X11_formula_1_J22 NF f20 g20 v20 w20
def gsY_X11_formula_1_J71 (NF : Nat) (f20 : Nat → Nat → Int32) (g20 : Nat → Int64) (v20 : Nat → Int32) (w20 : Int64) (k20 : Int32 → (Nat → Int32) → (Nat → Nat → Int32) → Int64 → (Nat → Int64) → ((Nat → Int32) × (Nat → Nat → Int32) × (Int64) × (Nat → Int64))) : (Nat → Int32) × (Nat → Nat → Int32) × (Int64) × (Nat → Int64) :=
  k20 0 v20 f20 w20 g20
def gsY_X11_formula_1_J74 (NF : Nat) (f20 : Nat → Nat → Int32) (g20 : Nat → Int64) (l1_20 : Int32) (v20 : Nat → Int32) (w20 : Int64) (r68 : Int32) (k20 : Int32 → (Nat → Int32) → (Nat → Nat → Int32) → Int64 → (Nat → Int64) → ((Nat → Int32) × (Nat → Nat → Int32) × (Int64) × (Nat → Int64))) : (Nat → Int32) × (Nat → Nat → Int32) × (Int64) × (Nat → Int64) :=
  let r75 : Int32 := gsY_X11_tight_1 NF r68 v20 f20 w20 g20
  match gsY_X11_close_1 NF r75 v20 f20 w20 g20 with
  | (v78, f79, w80, g81) =>
    let f90 : Nat → Nat → Int32 := upd2 f79 6 (upd (f79 6) (v78 10).toNatClampNeg r68)
    let t91 : Int32 := (v78 10) + 1
    match gsY_X11_token_1 NF (upd v78 10 t91) f90 w80 g81 with
    | (v94, f95, w96, g97) =>
      match gsY_X11_unit_1 NF v94 f95 w96 g97 with
      | (v104, f105, w106, g107) =>
        k20 l1_20 v104 f105 w106 g107
def gsY_X11_formula_1_J72 (NF : Nat) (f20 : Nat → Nat → Int32) (g20 : Nat → Int64) (l1_20 : Int32) (v20 : Nat → Int32) (w20 : Int64) (r68 : Int32) (k20 : Int32 → (Nat → Int32) → (Nat → Nat → Int32) → Int64 → (Nat → Int64) → ((Nat → Int32) × (Nat → Nat → Int32) × (Int64) × (Nat → Int64))) : (Nat → Int32) × (Nat → Nat → Int32) × (Int64) × (Nat → Int64) :=
  if r68 = 0 then
    gsY_X11_formula_1_J71 NF f20 g20 v20 w20 k20
  else
    let r113 : Int32 := gsY_X11_tight_1 NF r68 v20 f20 w20 g20
    if r113 = 4 then
      if gsY_X11_hasRelation_1 NF v20 f20 w20 g20 = 1 then
        gsY_X11_formula_1_J71 NF f20 g20 v20 w20 k20
      else
        gsY_X11_formula_1_J74 NF f20 g20 l1_20 v20 w20 r68 k20
    else
      gsY_X11_formula_1_J74 NF f20 g20 l1_20 v20 w20 r68 k20
def gsY_X11_formula_1_L20 (NF : Nat) : Nat → (Int32) → (Nat → Int32) → (Nat → Nat → Int32) → (Int64) → (Nat → Int64) → (Nat → Int32) × (Nat → Nat → Int32) × (Int64) × (Nat → Int64)
  | 0, _, _, _, _, _ => ((fun _ => 0), (fun _ _ => 0), 0, (fun _ => 0))
  | n20 + 1, l1_20, v20, f20, w20, g20 =>
    if l1_20 = 0 then
      gsY_X11_formula_1_J21 NF f20 g20 v20 w20
    else
      if (v20 1) = 0 then
        let r68 : Int32 := gsY_X11_sign_1 NF v20 f20 w20 g20
        if (v20 5) = 41 then
          if gsY_X11_hasBracket_1 NF v20 f20 w20 g20 = 1 then
            match gsY_X11_close_1 NF 0 v20 f20 w20 g20 with
            | (v124, f125, w126, g127) =>
              let t136 : Int32 := (v124 10) - 1
              let t138 : Int32 := (v124 14) - 1
              match gsY_X11_token_1 NF (upd (upd v124 10 t136) 14 t138) f125 w126 g127 with
              | (v141, f142, w143, g144) =>
                gsY_X11_formula_1_L20 NF n20 l1_20 v141 f142 w143 g144
          else
            gsY_X11_formula_1_J72 NF f20 g20 l1_20 v20 w20 r68 (fun z0 z1 z2 z3 z4 => gsY_X11_formula_1_L20 NF n20 z0 z1 z2 z3 z4)
        else
          gsY_X11_formula_1_J72 NF f20 g20 l1_20 v20 w20 r68 (fun z0 z1 z2 z3 z4 => gsY_X11_formula_1_L20 NF n20 z0 z1 z2 z3 z4)
      else
        gsY_X11_formula_1_J21 NF f20 g20 v20 w20
def gsY_X11_formula_1 (NF : Nat) (v : Nat → Int32) (f : Nat → Nat → Int32) (w : Int64) (g : Nat → Int64) : (Nat → Int32) × (Nat → Nat → Int32) × (Int64) × (Nat → Int64) :=
  match gsY_X11_token_1 NF v f w g with
  | (v2, f3, w4, g5) =>
    match gsY_X11_unit_1 NF (upd (upd (upd (upd (upd v2 15 1) 8 0) 10 0) 14 0) 13 0) f3 w4 g5 with
    | (v12, f13, w14, g15) =>
      gsY_X11_formula_1_L20 NF (4294967296 + NF) 1 v12 f13 w14 g15
theorem gsY_X11_formula_1_q17 {NF : Nat} {v : Nat → Int32} {f : Nat → Nat → Int32} {w : Int64} {g : Nat → Int64} {v2 : Nat → Int32} {f3 : Nat → Nat → Int32} {w4 : Int64} {g5 : Nat → Int64} {v12 : Nat → Int32} {f13 : Nat → Nat → Int32} {w14 : Int64} {g15 : Nat → Int64} (h0 : gsY_X11_token_1 NF v f w g = (v2, f3, w4, g5)) (h1 : gsY_X11_unit_1 NF (upd (upd (upd (upd (upd v2 15 1) 8 0) 10 0) 14 0) 13 0) f3 w4 g5 = (v12, f13, w14, g15)) : gsY_X11_formula_1 NF v f w g = gsY_X11_formula_1_L20 NF (4294967296 + NF) 1 v12 f13 w14 g15 := by
  simp only [gsY_X11_formula_1, h0, h1]
theorem gsY_X11_formula_1_q6 {NF : Nat} {n20 : Nat} {l1_20 : Int32} {v20 : Nat → Int32} {f20 : Nat → Nat → Int32} {w20 : Int64} {g20 : Nat → Int64} (h0 : (l1_20 = 0)) : gsY_X11_formula_1_L20 NF (n20 + 1) l1_20 v20 f20 w20 g20 = gsY_X11_formula_1_J21 NF f20 g20 v20 w20 := by
  simp only [gsY_X11_formula_1_L20, if_pos h0]
theorem gsY_X11_formula_1_q7 {NF : Nat} {n20 : Nat} {l1_20 : Int32} {v20 : Nat → Int32} {f20 : Nat → Nat → Int32} {w20 : Int64} {g20 : Nat → Int64} (h0 : ¬ (l1_20 = 0)) (h1 : ¬ ((v20 1) = 0)) : gsY_X11_formula_1_L20 NF (n20 + 1) l1_20 v20 f20 w20 g20 = gsY_X11_formula_1_J21 NF f20 g20 v20 w20 := by
  simp only [gsY_X11_formula_1_L20, if_neg h0, if_neg h1]
theorem gsY_X11_formula_1_q14 {NF : Nat} {n20 : Nat} {l1_20 : Int32} {v20 : Nat → Int32} {f20 : Nat → Nat → Int32} {w20 : Int64} {g20 : Nat → Int64} {r68 : Int32} (h0 : ¬ (l1_20 = 0)) (h1 : ((v20 1) = 0)) (h2 : r68 = gsY_X11_sign_1 NF v20 f20 w20 g20) (h3 : ¬ ((v20 5) = 41)) : gsY_X11_formula_1_L20 NF (n20 + 1) l1_20 v20 f20 w20 g20 = gsY_X11_formula_1_J72 NF f20 g20 l1_20 v20 w20 r68 (fun z0 z1 z2 z3 z4 => gsY_X11_formula_1_L20 NF n20 z0 z1 z2 z3 z4) := by
  subst h2
  simp only [gsY_X11_formula_1_L20, if_neg h0, if_pos h1, if_neg h3]
theorem gsY_X11_formula_1_q15 {NF : Nat} {n20 : Nat} {l1_20 : Int32} {v20 : Nat → Int32} {f20 : Nat → Nat → Int32} {w20 : Int64} {g20 : Nat → Int64} {r68 : Int32} {v124 : Nat → Int32} {f125 : Nat → Nat → Int32} {w126 : Int64} {g127 : Nat → Int64} {t136 : Int32} {t138 : Int32} {v141 : Nat → Int32} {f142 : Nat → Nat → Int32} {w143 : Int64} {g144 : Nat → Int64} (h0 : ¬ (l1_20 = 0)) (h1 : ((v20 1) = 0)) (h2 : r68 = gsY_X11_sign_1 NF v20 f20 w20 g20) (h3 : ((v20 5) = 41)) (h4 : gsY_X11_hasBracket_1 NF v20 f20 w20 g20 = 1) (h5 : gsY_X11_close_1 NF 0 v20 f20 w20 g20 = (v124, f125, w126, g127)) (h6 : t136 = (v124 10) - 1) (h7 : t138 = (v124 14) - 1) (h8 : gsY_X11_token_1 NF (upd (upd v124 10 t136) 14 t138) f125 w126 g127 = (v141, f142, w143, g144)) : gsY_X11_formula_1_L20 NF (n20 + 1) l1_20 v20 f20 w20 g20 = gsY_X11_formula_1_L20 NF n20 l1_20 v141 f142 w143 g144 := by
  subst h2 h6 h7
  simp only [gsY_X11_formula_1_L20, if_neg h0, if_pos h1, if_pos h3, h4, h5, h8, ite11, ite01, if_true, if_false]
theorem gsY_X11_formula_1_q16 {NF : Nat} {n20 : Nat} {l1_20 : Int32} {v20 : Nat → Int32} {f20 : Nat → Nat → Int32} {w20 : Int64} {g20 : Nat → Int64} {r68 : Int32} (h0 : ¬ (l1_20 = 0)) (h1 : ((v20 1) = 0)) (h2 : r68 = gsY_X11_sign_1 NF v20 f20 w20 g20) (h3 : ((v20 5) = 41)) (h4 : gsY_X11_hasBracket_1 NF v20 f20 w20 g20 = 0) : gsY_X11_formula_1_L20 NF (n20 + 1) l1_20 v20 f20 w20 g20 = gsY_X11_formula_1_J72 NF f20 g20 l1_20 v20 w20 r68 (fun z0 z1 z2 z3 z4 => gsY_X11_formula_1_L20 NF n20 z0 z1 z2 z3 z4) := by
  subst h2
  simp only [gsY_X11_formula_1_L20, if_neg h0, if_pos h1, if_pos h3, h4, ite11, ite01, if_true, if_false]
theorem gsY_X11_formula_1_q2 {NF : Nat} {f20 : Nat → Nat → Int32} {g20 : Nat → Int64} {v20 : Nat → Int32} {w20 : Int64} (h0 : ¬ ((v20 1) = 0)) : gsY_X11_formula_1_J21 NF f20 g20 v20 w20 = gsY_X11_formula_1_J22 NF f20 g20 v20 w20 := by
  simp only [gsY_X11_formula_1_J21, if_neg h0]
theorem gsY_X11_formula_1_q3 {NF : Nat} {f20 : Nat → Nat → Int32} {g20 : Nat → Int64} {v20 : Nat → Int32} {w20 : Int64} {v42 : Nat → Int32} {f43 : Nat → Nat → Int32} {w44 : Int64} {g45 : Nat → Int64} (h0 : ((v20 1) = 0)) (h1 : gsY_X11_hasBracket_1 NF v20 f20 w20 g20 = 1) (h2 : gsY_X11_wrong_1 NF 2 v20 f20 w20 g20 = (v42, f43, w44, g45)) (h3 : ¬ ((v42 1) = 0)) : gsY_X11_formula_1_J21 NF f20 g20 v20 w20 = (v42, f43, w44, g45) := by
  simp only [gsY_X11_formula_1_J21, if_pos h0, h1, h2, if_neg h3, ite11, ite01, if_true, if_false]
theorem gsY_X11_formula_1_q4 {NF : Nat} {f20 : Nat → Nat → Int32} {g20 : Nat → Int64} {v20 : Nat → Int32} {w20 : Int64} {v42 : Nat → Int32} {f43 : Nat → Nat → Int32} {w44 : Int64} {g45 : Nat → Int64} {v54 : Nat → Int32} {f55 : Nat → Nat → Int32} {w56 : Int64} {g57 : Nat → Int64} (h0 : ((v20 1) = 0)) (h1 : gsY_X11_hasBracket_1 NF v20 f20 w20 g20 = 1) (h2 : gsY_X11_wrong_1 NF 2 v20 f20 w20 g20 = (v42, f43, w44, g45)) (h3 : ((v42 1) = 0)) (h4 : gsY_X11_close_1 NF 0 v42 f43 w44 g45 = (v54, f55, w56, g57)) : gsY_X11_formula_1_J21 NF f20 g20 v20 w20 = (v54, f55, w56, g57) := by
  simp only [gsY_X11_formula_1_J21, if_pos h0, h1, h2, if_pos h3, h4, ite11, ite01, if_true, if_false]
theorem gsY_X11_formula_1_q5 {NF : Nat} {f20 : Nat → Nat → Int32} {g20 : Nat → Int64} {v20 : Nat → Int32} {w20 : Int64} (h0 : ((v20 1) = 0)) (h1 : gsY_X11_hasBracket_1 NF v20 f20 w20 g20 = 0) : gsY_X11_formula_1_J21 NF f20 g20 v20 w20 = gsY_X11_formula_1_J22 NF f20 g20 v20 w20 := by
  simp only [gsY_X11_formula_1_J21, if_pos h0, h1, ite11, ite01, if_true, if_false]
theorem gsY_X11_formula_1_q0 {NF : Nat} {f20 : Nat → Nat → Int32} {g20 : Nat → Int64} {v20 : Nat → Int32} {w20 : Int64} (h0 : ¬ ((v20 1) = 0)) : gsY_X11_formula_1_J22 NF f20 g20 v20 w20 = (v20, f20, w20, g20) := by
  simp only [gsY_X11_formula_1_J22, if_neg h0]
theorem gsY_X11_formula_1_q1 {NF : Nat} {f20 : Nat → Nat → Int32} {g20 : Nat → Int64} {v20 : Nat → Int32} {w20 : Int64} {v25 : Nat → Int32} {f26 : Nat → Nat → Int32} {w27 : Int64} {g28 : Nat → Int64} (h0 : ((v20 1) = 0)) (h1 : gsY_X11_close_1 NF 0 v20 f20 w20 g20 = (v25, f26, w27, g28)) : gsY_X11_formula_1_J22 NF f20 g20 v20 w20 = (v25, f26, w27, g28) := by
  simp only [gsY_X11_formula_1_J22, if_pos h0, h1]
theorem gsY_X11_formula_1_q8 {NF : Nat} {f20 : Nat → Nat → Int32} {g20 : Nat → Int64} {v20 : Nat → Int32} {w20 : Int64} {k20 : Int32 → (Nat → Int32) → (Nat → Nat → Int32) → Int64 → (Nat → Int64) → ((Nat → Int32) × (Nat → Nat → Int32) × (Int64) × (Nat → Int64))}  : gsY_X11_formula_1_J71 NF f20 g20 v20 w20 k20 = k20 0 v20 f20 w20 g20 := by
  simp only [gsY_X11_formula_1_J71]
theorem gsY_X11_formula_1_q9 {NF : Nat} {f20 : Nat → Nat → Int32} {g20 : Nat → Int64} {l1_20 : Int32} {v20 : Nat → Int32} {w20 : Int64} {r68 : Int32} {k20 : Int32 → (Nat → Int32) → (Nat → Nat → Int32) → Int64 → (Nat → Int64) → ((Nat → Int32) × (Nat → Nat → Int32) × (Int64) × (Nat → Int64))} (h0 : (r68 = 0)) : gsY_X11_formula_1_J72 NF f20 g20 l1_20 v20 w20 r68 k20 = gsY_X11_formula_1_J71 NF f20 g20 v20 w20 k20 := by
  simp only [gsY_X11_formula_1_J72, if_pos h0]
theorem gsY_X11_formula_1_q11 {NF : Nat} {f20 : Nat → Nat → Int32} {g20 : Nat → Int64} {l1_20 : Int32} {v20 : Nat → Int32} {w20 : Int64} {r68 : Int32} {r113 : Int32} {k20 : Int32 → (Nat → Int32) → (Nat → Nat → Int32) → Int64 → (Nat → Int64) → ((Nat → Int32) × (Nat → Nat → Int32) × (Int64) × (Nat → Int64))} (h0 : ¬ (r68 = 0)) (h1 : r113 = gsY_X11_tight_1 NF r68 v20 f20 w20 g20) (h2 : ¬ (r113 = 4)) : gsY_X11_formula_1_J72 NF f20 g20 l1_20 v20 w20 r68 k20 = gsY_X11_formula_1_J74 NF f20 g20 l1_20 v20 w20 r68 k20 := by
  subst h1
  simp only [gsY_X11_formula_1_J72, if_neg h0, if_neg h2]
theorem gsY_X11_formula_1_q12 {NF : Nat} {f20 : Nat → Nat → Int32} {g20 : Nat → Int64} {l1_20 : Int32} {v20 : Nat → Int32} {w20 : Int64} {r68 : Int32} {r113 : Int32} {k20 : Int32 → (Nat → Int32) → (Nat → Nat → Int32) → Int64 → (Nat → Int64) → ((Nat → Int32) × (Nat → Nat → Int32) × (Int64) × (Nat → Int64))} (h0 : ¬ (r68 = 0)) (h1 : r113 = gsY_X11_tight_1 NF r68 v20 f20 w20 g20) (h2 : (r113 = 4)) (h3 : gsY_X11_hasRelation_1 NF v20 f20 w20 g20 = 1) : gsY_X11_formula_1_J72 NF f20 g20 l1_20 v20 w20 r68 k20 = gsY_X11_formula_1_J71 NF f20 g20 v20 w20 k20 := by
  subst h1
  simp only [gsY_X11_formula_1_J72, if_neg h0, if_pos h2, h3, ite11, ite01, if_true, if_false]
theorem gsY_X11_formula_1_q13 {NF : Nat} {f20 : Nat → Nat → Int32} {g20 : Nat → Int64} {l1_20 : Int32} {v20 : Nat → Int32} {w20 : Int64} {r68 : Int32} {r113 : Int32} {k20 : Int32 → (Nat → Int32) → (Nat → Nat → Int32) → Int64 → (Nat → Int64) → ((Nat → Int32) × (Nat → Nat → Int32) × (Int64) × (Nat → Int64))} (h0 : ¬ (r68 = 0)) (h1 : r113 = gsY_X11_tight_1 NF r68 v20 f20 w20 g20) (h2 : (r113 = 4)) (h3 : gsY_X11_hasRelation_1 NF v20 f20 w20 g20 = 0) : gsY_X11_formula_1_J72 NF f20 g20 l1_20 v20 w20 r68 k20 = gsY_X11_formula_1_J74 NF f20 g20 l1_20 v20 w20 r68 k20 := by
  subst h1
  simp only [gsY_X11_formula_1_J72, if_neg h0, if_pos h2, h3, ite11, ite01, if_true, if_false]
theorem gsY_X11_formula_1_q10 {NF : Nat} {f20 : Nat → Nat → Int32} {g20 : Nat → Int64} {l1_20 : Int32} {v20 : Nat → Int32} {w20 : Int64} {r68 : Int32} {r75 : Int32} {v78 : Nat → Int32} {f79 : Nat → Nat → Int32} {w80 : Int64} {g81 : Nat → Int64} {f90 : Nat → Nat → Int32} {t91 : Int32} {v94 : Nat → Int32} {f95 : Nat → Nat → Int32} {w96 : Int64} {g97 : Nat → Int64} {v104 : Nat → Int32} {f105 : Nat → Nat → Int32} {w106 : Int64} {g107 : Nat → Int64} {k20 : Int32 → (Nat → Int32) → (Nat → Nat → Int32) → Int64 → (Nat → Int64) → ((Nat → Int32) × (Nat → Nat → Int32) × (Int64) × (Nat → Int64))} (h0 : r75 = gsY_X11_tight_1 NF r68 v20 f20 w20 g20) (h1 : gsY_X11_close_1 NF r75 v20 f20 w20 g20 = (v78, f79, w80, g81)) (h2 : f90 = upd2 f79 6 (upd (f79 6) (v78 10).toNatClampNeg r68)) (h3 : t91 = (v78 10) + 1) (h4 : gsY_X11_token_1 NF (upd v78 10 t91) f90 w80 g81 = (v94, f95, w96, g97)) (h5 : gsY_X11_unit_1 NF v94 f95 w96 g97 = (v104, f105, w106, g107)) : gsY_X11_formula_1_J74 NF f20 g20 l1_20 v20 w20 r68 k20 = k20 l1_20 v104 f105 w106 g107 := by
  subst h0 h2 h3
  simp only [gsY_X11_formula_1_J74, h1, h4, h5]
def gsY_X11_isOwn_1 (NF : Nat) (v : Nat → Int32) (f : Nat → Nat → Int32) (w : Int64) (g : Nat → Int64) : Int32 :=
  let t1 : Int32 := lg_cmp w (7168366 : Int64)
  if t1 = 0 then
    1
  else
    let t3 : Int32 := lg_cmp w (1952541804 : Int64)
    if t3 = 0 then
      1
    else
      let t5 : Int32 := lg_cmp w (2003395685 : Int64)
      if t5 = 0 then
        1
      else
        let t7 : Int32 := lg_cmp w (444301539187 : Int64)
        if t7 = 0 then
          1
        else
          let t9 : Int32 := lg_cmp w (1668243828 : Int64)
          if t9 = 0 then
            1
          else
            let t11 : Int32 := lg_cmp w (1936023917 : Int64)
            if t11 = 0 then
              1
            else
              let t13 : Int32 := lg_cmp w (2003792494 : Int64)
              if t13 = 0 then
                1
              else
                let t15 : Int32 := lg_cmp w (6909036 : Int64)
                if t15 = 0 then
                  1
                else
                  let t17 : Int32 := lg_cmp w (1700885369 : Int64)
                  if t17 = 0 then
                    1
                  else
                    let t19 : Int32 := lg_cmp w (1651469428 : Int64)
                    if t19 = 0 then
                      1
                    else
                      let t21 : Int32 := lg_cmp w (1818848101 : Int64)
                      if t21 = 0 then
                        1
                      else
                        let t23 : Int32 := lg_cmp w (1918986606 : Int64)
                        if t23 = 0 then
                          1
                        else
                          let t25 : Int32 := lg_cmp w (1685217655 : Int64)
                          if t25 = 0 then
                            1
                          else
                            let t27 : Int32 := lg_cmp w (499984590964 : Int64)
                            if t27 = 0 then
                              1
                            else
                              let t29 : Int32 := lg_cmp w (465726042981 : Int64)
                              if t29 = 0 then
                                1
                              else
                                let t31 : Int32 := lg_cmp w (495673373300 : Int64)
                                if t31 = 0 then
                                  1
                                else
                                  let t33 : Int32 := lg_cmp w (1819242087 : Int64)
                                  if t33 = 0 then
                                    1
                                  else
                                    let t35 : Int32 := lg_cmp w (6578553 : Int64)
                                    if t35 = 0 then
                                      1
                                    else
                                      let t37 : Int32 := lg_cmp w (6385252 : Int64)
                                      if t37 = 0 then
                                        1
                                      else
                                        let t39 : Int32 := lg_cmp w (28530 : Int64)
                                        if t39 = 0 then
                                          1
                                        else
                                          let t41 : Int32 := lg_cmp w (7237492 : Int64)
                                          if t41 = 0 then
                                            1
                                          else
                                            0
theorem gsY_X11_isOwn_1_q0 {NF : Nat} {v : Nat → Int32} {f : Nat → Nat → Int32} {w : Int64} {g : Nat → Int64} {t1 : Int32} (h0 : t1 = lg_cmp w (7168366 : Int64)) (h1 : (t1 = 0)) : gsY_X11_isOwn_1 NF v f w g = 1 := by
  subst h0
  simp only [gsY_X11_isOwn_1, if_pos h1]
theorem gsY_X11_isOwn_1_q1 {NF : Nat} {v : Nat → Int32} {f : Nat → Nat → Int32} {w : Int64} {g : Nat → Int64} {t1 : Int32} {t3 : Int32} (h0 : t1 = lg_cmp w (7168366 : Int64)) (h1 : ¬ (t1 = 0)) (h2 : t3 = lg_cmp w (1952541804 : Int64)) (h3 : (t3 = 0)) : gsY_X11_isOwn_1 NF v f w g = 1 := by
  subst h0 h2
  simp only [gsY_X11_isOwn_1, if_neg h1, if_pos h3]
theorem gsY_X11_isOwn_1_q2 {NF : Nat} {v : Nat → Int32} {f : Nat → Nat → Int32} {w : Int64} {g : Nat → Int64} {t1 : Int32} {t3 : Int32} {t5 : Int32} (h0 : t1 = lg_cmp w (7168366 : Int64)) (h1 : ¬ (t1 = 0)) (h2 : t3 = lg_cmp w (1952541804 : Int64)) (h3 : ¬ (t3 = 0)) (h4 : t5 = lg_cmp w (2003395685 : Int64)) (h5 : (t5 = 0)) : gsY_X11_isOwn_1 NF v f w g = 1 := by
  subst h0 h2 h4
  simp only [gsY_X11_isOwn_1, if_neg h1, if_neg h3, if_pos h5]
theorem gsY_X11_isOwn_1_q3 {NF : Nat} {v : Nat → Int32} {f : Nat → Nat → Int32} {w : Int64} {g : Nat → Int64} {t1 : Int32} {t3 : Int32} {t5 : Int32} {t7 : Int32} (h0 : t1 = lg_cmp w (7168366 : Int64)) (h1 : ¬ (t1 = 0)) (h2 : t3 = lg_cmp w (1952541804 : Int64)) (h3 : ¬ (t3 = 0)) (h4 : t5 = lg_cmp w (2003395685 : Int64)) (h5 : ¬ (t5 = 0)) (h6 : t7 = lg_cmp w (444301539187 : Int64)) (h7 : (t7 = 0)) : gsY_X11_isOwn_1 NF v f w g = 1 := by
  subst h0 h2 h4 h6
  simp only [gsY_X11_isOwn_1, if_neg h1, if_neg h3, if_neg h5, if_pos h7]
theorem gsY_X11_isOwn_1_q4 {NF : Nat} {v : Nat → Int32} {f : Nat → Nat → Int32} {w : Int64} {g : Nat → Int64} {t1 : Int32} {t3 : Int32} {t5 : Int32} {t7 : Int32} {t9 : Int32} (h0 : t1 = lg_cmp w (7168366 : Int64)) (h1 : ¬ (t1 = 0)) (h2 : t3 = lg_cmp w (1952541804 : Int64)) (h3 : ¬ (t3 = 0)) (h4 : t5 = lg_cmp w (2003395685 : Int64)) (h5 : ¬ (t5 = 0)) (h6 : t7 = lg_cmp w (444301539187 : Int64)) (h7 : ¬ (t7 = 0)) (h8 : t9 = lg_cmp w (1668243828 : Int64)) (h9 : (t9 = 0)) : gsY_X11_isOwn_1 NF v f w g = 1 := by
  subst h0 h2 h4 h6 h8
  simp only [gsY_X11_isOwn_1, if_neg h1, if_neg h3, if_neg h5, if_neg h7, if_pos h9]
theorem gsY_X11_isOwn_1_q5 {NF : Nat} {v : Nat → Int32} {f : Nat → Nat → Int32} {w : Int64} {g : Nat → Int64} {t1 : Int32} {t3 : Int32} {t5 : Int32} {t7 : Int32} {t9 : Int32} {t11 : Int32} (h0 : t1 = lg_cmp w (7168366 : Int64)) (h1 : ¬ (t1 = 0)) (h2 : t3 = lg_cmp w (1952541804 : Int64)) (h3 : ¬ (t3 = 0)) (h4 : t5 = lg_cmp w (2003395685 : Int64)) (h5 : ¬ (t5 = 0)) (h6 : t7 = lg_cmp w (444301539187 : Int64)) (h7 : ¬ (t7 = 0)) (h8 : t9 = lg_cmp w (1668243828 : Int64)) (h9 : ¬ (t9 = 0)) (h10 : t11 = lg_cmp w (1936023917 : Int64)) (h11 : (t11 = 0)) : gsY_X11_isOwn_1 NF v f w g = 1 := by
  subst h0 h2 h4 h6 h8 h10
  simp only [gsY_X11_isOwn_1, if_neg h1, if_neg h3, if_neg h5, if_neg h7, if_neg h9, if_pos h11]
theorem gsY_X11_isOwn_1_q6 {NF : Nat} {v : Nat → Int32} {f : Nat → Nat → Int32} {w : Int64} {g : Nat → Int64} {t1 : Int32} {t3 : Int32} {t5 : Int32} {t7 : Int32} {t9 : Int32} {t11 : Int32} {t13 : Int32} (h0 : t1 = lg_cmp w (7168366 : Int64)) (h1 : ¬ (t1 = 0)) (h2 : t3 = lg_cmp w (1952541804 : Int64)) (h3 : ¬ (t3 = 0)) (h4 : t5 = lg_cmp w (2003395685 : Int64)) (h5 : ¬ (t5 = 0)) (h6 : t7 = lg_cmp w (444301539187 : Int64)) (h7 : ¬ (t7 = 0)) (h8 : t9 = lg_cmp w (1668243828 : Int64)) (h9 : ¬ (t9 = 0)) (h10 : t11 = lg_cmp w (1936023917 : Int64)) (h11 : ¬ (t11 = 0)) (h12 : t13 = lg_cmp w (2003792494 : Int64)) (h13 : (t13 = 0)) : gsY_X11_isOwn_1 NF v f w g = 1 := by
  subst h0 h2 h4 h6 h8 h10 h12
  simp only [gsY_X11_isOwn_1, if_neg h1, if_neg h3, if_neg h5, if_neg h7, if_neg h9, if_neg h11, if_pos h13]
theorem gsY_X11_isOwn_1_q7 {NF : Nat} {v : Nat → Int32} {f : Nat → Nat → Int32} {w : Int64} {g : Nat → Int64} {t1 : Int32} {t3 : Int32} {t5 : Int32} {t7 : Int32} {t9 : Int32} {t11 : Int32} {t13 : Int32} {t15 : Int32} (h0 : t1 = lg_cmp w (7168366 : Int64)) (h1 : ¬ (t1 = 0)) (h2 : t3 = lg_cmp w (1952541804 : Int64)) (h3 : ¬ (t3 = 0)) (h4 : t5 = lg_cmp w (2003395685 : Int64)) (h5 : ¬ (t5 = 0)) (h6 : t7 = lg_cmp w (444301539187 : Int64)) (h7 : ¬ (t7 = 0)) (h8 : t9 = lg_cmp w (1668243828 : Int64)) (h9 : ¬ (t9 = 0)) (h10 : t11 = lg_cmp w (1936023917 : Int64)) (h11 : ¬ (t11 = 0)) (h12 : t13 = lg_cmp w (2003792494 : Int64)) (h13 : ¬ (t13 = 0)) (h14 : t15 = lg_cmp w (6909036 : Int64)) (h15 : (t15 = 0)) : gsY_X11_isOwn_1 NF v f w g = 1 := by
  subst h0 h2 h4 h6 h8 h10 h12 h14
  simp only [gsY_X11_isOwn_1, if_neg h1, if_neg h3, if_neg h5, if_neg h7, if_neg h9, if_neg h11, if_neg h13, if_pos h15]
theorem gsY_X11_isOwn_1_q8 {NF : Nat} {v : Nat → Int32} {f : Nat → Nat → Int32} {w : Int64} {g : Nat → Int64} {t1 : Int32} {t3 : Int32} {t5 : Int32} {t7 : Int32} {t9 : Int32} {t11 : Int32} {t13 : Int32} {t15 : Int32} {t17 : Int32} (h0 : t1 = lg_cmp w (7168366 : Int64)) (h1 : ¬ (t1 = 0)) (h2 : t3 = lg_cmp w (1952541804 : Int64)) (h3 : ¬ (t3 = 0)) (h4 : t5 = lg_cmp w (2003395685 : Int64)) (h5 : ¬ (t5 = 0)) (h6 : t7 = lg_cmp w (444301539187 : Int64)) (h7 : ¬ (t7 = 0)) (h8 : t9 = lg_cmp w (1668243828 : Int64)) (h9 : ¬ (t9 = 0)) (h10 : t11 = lg_cmp w (1936023917 : Int64)) (h11 : ¬ (t11 = 0)) (h12 : t13 = lg_cmp w (2003792494 : Int64)) (h13 : ¬ (t13 = 0)) (h14 : t15 = lg_cmp w (6909036 : Int64)) (h15 : ¬ (t15 = 0)) (h16 : t17 = lg_cmp w (1700885369 : Int64)) (h17 : (t17 = 0)) : gsY_X11_isOwn_1 NF v f w g = 1 := by
  subst h0 h2 h4 h6 h8 h10 h12 h14 h16
  simp only [gsY_X11_isOwn_1, if_neg h1, if_neg h3, if_neg h5, if_neg h7, if_neg h9, if_neg h11, if_neg h13, if_neg h15, if_pos h17]
theorem gsY_X11_isOwn_1_q9 {NF : Nat} {v : Nat → Int32} {f : Nat → Nat → Int32} {w : Int64} {g : Nat → Int64} {t1 : Int32} {t3 : Int32} {t5 : Int32} {t7 : Int32} {t9 : Int32} {t11 : Int32} {t13 : Int32} {t15 : Int32} {t17 : Int32} {t19 : Int32} (h0 : t1 = lg_cmp w (7168366 : Int64)) (h1 : ¬ (t1 = 0)) (h2 : t3 = lg_cmp w (1952541804 : Int64)) (h3 : ¬ (t3 = 0)) (h4 : t5 = lg_cmp w (2003395685 : Int64)) (h5 : ¬ (t5 = 0)) (h6 : t7 = lg_cmp w (444301539187 : Int64)) (h7 : ¬ (t7 = 0)) (h8 : t9 = lg_cmp w (1668243828 : Int64)) (h9 : ¬ (t9 = 0)) (h10 : t11 = lg_cmp w (1936023917 : Int64)) (h11 : ¬ (t11 = 0)) (h12 : t13 = lg_cmp w (2003792494 : Int64)) (h13 : ¬ (t13 = 0)) (h14 : t15 = lg_cmp w (6909036 : Int64)) (h15 : ¬ (t15 = 0)) (h16 : t17 = lg_cmp w (1700885369 : Int64)) (h17 : ¬ (t17 = 0)) (h18 : t19 = lg_cmp w (1651469428 : Int64)) (h19 : (t19 = 0)) : gsY_X11_isOwn_1 NF v f w g = 1 := by
  subst h0 h2 h4 h6 h8 h10 h12 h14 h16 h18
  simp only [gsY_X11_isOwn_1, if_neg h1, if_neg h3, if_neg h5, if_neg h7, if_neg h9, if_neg h11, if_neg h13, if_neg h15, if_neg h17, if_pos h19]
theorem gsY_X11_isOwn_1_q10 {NF : Nat} {v : Nat → Int32} {f : Nat → Nat → Int32} {w : Int64} {g : Nat → Int64} {t1 : Int32} {t3 : Int32} {t5 : Int32} {t7 : Int32} {t9 : Int32} {t11 : Int32} {t13 : Int32} {t15 : Int32} {t17 : Int32} {t19 : Int32} {t21 : Int32} (h0 : t1 = lg_cmp w (7168366 : Int64)) (h1 : ¬ (t1 = 0)) (h2 : t3 = lg_cmp w (1952541804 : Int64)) (h3 : ¬ (t3 = 0)) (h4 : t5 = lg_cmp w (2003395685 : Int64)) (h5 : ¬ (t5 = 0)) (h6 : t7 = lg_cmp w (444301539187 : Int64)) (h7 : ¬ (t7 = 0)) (h8 : t9 = lg_cmp w (1668243828 : Int64)) (h9 : ¬ (t9 = 0)) (h10 : t11 = lg_cmp w (1936023917 : Int64)) (h11 : ¬ (t11 = 0)) (h12 : t13 = lg_cmp w (2003792494 : Int64)) (h13 : ¬ (t13 = 0)) (h14 : t15 = lg_cmp w (6909036 : Int64)) (h15 : ¬ (t15 = 0)) (h16 : t17 = lg_cmp w (1700885369 : Int64)) (h17 : ¬ (t17 = 0)) (h18 : t19 = lg_cmp w (1651469428 : Int64)) (h19 : ¬ (t19 = 0)) (h20 : t21 = lg_cmp w (1818848101 : Int64)) (h21 : (t21 = 0)) : gsY_X11_isOwn_1 NF v f w g = 1 := by
  subst h0 h2 h4 h6 h8 h10 h12 h14 h16 h18 h20
  simp only [gsY_X11_isOwn_1, if_neg h1, if_neg h3, if_neg h5, if_neg h7, if_neg h9, if_neg h11, if_neg h13, if_neg h15, if_neg h17, if_neg h19, if_pos h21]
theorem gsY_X11_isOwn_1_q11 {NF : Nat} {v : Nat → Int32} {f : Nat → Nat → Int32} {w : Int64} {g : Nat → Int64} {t1 : Int32} {t3 : Int32} {t5 : Int32} {t7 : Int32} {t9 : Int32} {t11 : Int32} {t13 : Int32} {t15 : Int32} {t17 : Int32} {t19 : Int32} {t21 : Int32} {t23 : Int32} (h0 : t1 = lg_cmp w (7168366 : Int64)) (h1 : ¬ (t1 = 0)) (h2 : t3 = lg_cmp w (1952541804 : Int64)) (h3 : ¬ (t3 = 0)) (h4 : t5 = lg_cmp w (2003395685 : Int64)) (h5 : ¬ (t5 = 0)) (h6 : t7 = lg_cmp w (444301539187 : Int64)) (h7 : ¬ (t7 = 0)) (h8 : t9 = lg_cmp w (1668243828 : Int64)) (h9 : ¬ (t9 = 0)) (h10 : t11 = lg_cmp w (1936023917 : Int64)) (h11 : ¬ (t11 = 0)) (h12 : t13 = lg_cmp w (2003792494 : Int64)) (h13 : ¬ (t13 = 0)) (h14 : t15 = lg_cmp w (6909036 : Int64)) (h15 : ¬ (t15 = 0)) (h16 : t17 = lg_cmp w (1700885369 : Int64)) (h17 : ¬ (t17 = 0)) (h18 : t19 = lg_cmp w (1651469428 : Int64)) (h19 : ¬ (t19 = 0)) (h20 : t21 = lg_cmp w (1818848101 : Int64)) (h21 : ¬ (t21 = 0)) (h22 : t23 = lg_cmp w (1918986606 : Int64)) (h23 : (t23 = 0)) : gsY_X11_isOwn_1 NF v f w g = 1 := by
  subst h0 h2 h4 h6 h8 h10 h12 h14 h16 h18 h20 h22
  simp only [gsY_X11_isOwn_1, if_neg h1, if_neg h3, if_neg h5, if_neg h7, if_neg h9, if_neg h11, if_neg h13, if_neg h15, if_neg h17, if_neg h19, if_neg h21, if_pos h23]
theorem gsY_X11_isOwn_1_q12 {NF : Nat} {v : Nat → Int32} {f : Nat → Nat → Int32} {w : Int64} {g : Nat → Int64} {t1 : Int32} {t3 : Int32} {t5 : Int32} {t7 : Int32} {t9 : Int32} {t11 : Int32} {t13 : Int32} {t15 : Int32} {t17 : Int32} {t19 : Int32} {t21 : Int32} {t23 : Int32} {t25 : Int32} (h0 : t1 = lg_cmp w (7168366 : Int64)) (h1 : ¬ (t1 = 0)) (h2 : t3 = lg_cmp w (1952541804 : Int64)) (h3 : ¬ (t3 = 0)) (h4 : t5 = lg_cmp w (2003395685 : Int64)) (h5 : ¬ (t5 = 0)) (h6 : t7 = lg_cmp w (444301539187 : Int64)) (h7 : ¬ (t7 = 0)) (h8 : t9 = lg_cmp w (1668243828 : Int64)) (h9 : ¬ (t9 = 0)) (h10 : t11 = lg_cmp w (1936023917 : Int64)) (h11 : ¬ (t11 = 0)) (h12 : t13 = lg_cmp w (2003792494 : Int64)) (h13 : ¬ (t13 = 0)) (h14 : t15 = lg_cmp w (6909036 : Int64)) (h15 : ¬ (t15 = 0)) (h16 : t17 = lg_cmp w (1700885369 : Int64)) (h17 : ¬ (t17 = 0)) (h18 : t19 = lg_cmp w (1651469428 : Int64)) (h19 : ¬ (t19 = 0)) (h20 : t21 = lg_cmp w (1818848101 : Int64)) (h21 : ¬ (t21 = 0)) (h22 : t23 = lg_cmp w (1918986606 : Int64)) (h23 : ¬ (t23 = 0)) (h24 : t25 = lg_cmp w (1685217655 : Int64)) (h25 : (t25 = 0)) : gsY_X11_isOwn_1 NF v f w g = 1 := by
  subst h0 h2 h4 h6 h8 h10 h12 h14 h16 h18 h20 h22 h24
  simp only [gsY_X11_isOwn_1, if_neg h1, if_neg h3, if_neg h5, if_neg h7, if_neg h9, if_neg h11, if_neg h13, if_neg h15, if_neg h17, if_neg h19, if_neg h21, if_neg h23, if_pos h25]
theorem gsY_X11_isOwn_1_q13 {NF : Nat} {v : Nat → Int32} {f : Nat → Nat → Int32} {w : Int64} {g : Nat → Int64} {t1 : Int32} {t3 : Int32} {t5 : Int32} {t7 : Int32} {t9 : Int32} {t11 : Int32} {t13 : Int32} {t15 : Int32} {t17 : Int32} {t19 : Int32} {t21 : Int32} {t23 : Int32} {t25 : Int32} {t27 : Int32} (h0 : t1 = lg_cmp w (7168366 : Int64)) (h1 : ¬ (t1 = 0)) (h2 : t3 = lg_cmp w (1952541804 : Int64)) (h3 : ¬ (t3 = 0)) (h4 : t5 = lg_cmp w (2003395685 : Int64)) (h5 : ¬ (t5 = 0)) (h6 : t7 = lg_cmp w (444301539187 : Int64)) (h7 : ¬ (t7 = 0)) (h8 : t9 = lg_cmp w (1668243828 : Int64)) (h9 : ¬ (t9 = 0)) (h10 : t11 = lg_cmp w (1936023917 : Int64)) (h11 : ¬ (t11 = 0)) (h12 : t13 = lg_cmp w (2003792494 : Int64)) (h13 : ¬ (t13 = 0)) (h14 : t15 = lg_cmp w (6909036 : Int64)) (h15 : ¬ (t15 = 0)) (h16 : t17 = lg_cmp w (1700885369 : Int64)) (h17 : ¬ (t17 = 0)) (h18 : t19 = lg_cmp w (1651469428 : Int64)) (h19 : ¬ (t19 = 0)) (h20 : t21 = lg_cmp w (1818848101 : Int64)) (h21 : ¬ (t21 = 0)) (h22 : t23 = lg_cmp w (1918986606 : Int64)) (h23 : ¬ (t23 = 0)) (h24 : t25 = lg_cmp w (1685217655 : Int64)) (h25 : ¬ (t25 = 0)) (h26 : t27 = lg_cmp w (499984590964 : Int64)) (h27 : (t27 = 0)) : gsY_X11_isOwn_1 NF v f w g = 1 := by
  subst h0 h2 h4 h6 h8 h10 h12 h14 h16 h18 h20 h22 h24 h26
  simp only [gsY_X11_isOwn_1, if_neg h1, if_neg h3, if_neg h5, if_neg h7, if_neg h9, if_neg h11, if_neg h13, if_neg h15, if_neg h17, if_neg h19, if_neg h21, if_neg h23, if_neg h25, if_pos h27]
theorem gsY_X11_isOwn_1_q14 {NF : Nat} {v : Nat → Int32} {f : Nat → Nat → Int32} {w : Int64} {g : Nat → Int64} {t1 : Int32} {t3 : Int32} {t5 : Int32} {t7 : Int32} {t9 : Int32} {t11 : Int32} {t13 : Int32} {t15 : Int32} {t17 : Int32} {t19 : Int32} {t21 : Int32} {t23 : Int32} {t25 : Int32} {t27 : Int32} {t29 : Int32} (h0 : t1 = lg_cmp w (7168366 : Int64)) (h1 : ¬ (t1 = 0)) (h2 : t3 = lg_cmp w (1952541804 : Int64)) (h3 : ¬ (t3 = 0)) (h4 : t5 = lg_cmp w (2003395685 : Int64)) (h5 : ¬ (t5 = 0)) (h6 : t7 = lg_cmp w (444301539187 : Int64)) (h7 : ¬ (t7 = 0)) (h8 : t9 = lg_cmp w (1668243828 : Int64)) (h9 : ¬ (t9 = 0)) (h10 : t11 = lg_cmp w (1936023917 : Int64)) (h11 : ¬ (t11 = 0)) (h12 : t13 = lg_cmp w (2003792494 : Int64)) (h13 : ¬ (t13 = 0)) (h14 : t15 = lg_cmp w (6909036 : Int64)) (h15 : ¬ (t15 = 0)) (h16 : t17 = lg_cmp w (1700885369 : Int64)) (h17 : ¬ (t17 = 0)) (h18 : t19 = lg_cmp w (1651469428 : Int64)) (h19 : ¬ (t19 = 0)) (h20 : t21 = lg_cmp w (1818848101 : Int64)) (h21 : ¬ (t21 = 0)) (h22 : t23 = lg_cmp w (1918986606 : Int64)) (h23 : ¬ (t23 = 0)) (h24 : t25 = lg_cmp w (1685217655 : Int64)) (h25 : ¬ (t25 = 0)) (h26 : t27 = lg_cmp w (499984590964 : Int64)) (h27 : ¬ (t27 = 0)) (h28 : t29 = lg_cmp w (465726042981 : Int64)) (h29 : (t29 = 0)) : gsY_X11_isOwn_1 NF v f w g = 1 := by
  subst h0 h2 h4 h6 h8 h10 h12 h14 h16 h18 h20 h22 h24 h26 h28
  simp only [gsY_X11_isOwn_1, if_neg h1, if_neg h3, if_neg h5, if_neg h7, if_neg h9, if_neg h11, if_neg h13, if_neg h15, if_neg h17, if_neg h19, if_neg h21, if_neg h23, if_neg h25, if_neg h27, if_pos h29]
theorem gsY_X11_isOwn_1_q15 {NF : Nat} {v : Nat → Int32} {f : Nat → Nat → Int32} {w : Int64} {g : Nat → Int64} {t1 : Int32} {t3 : Int32} {t5 : Int32} {t7 : Int32} {t9 : Int32} {t11 : Int32} {t13 : Int32} {t15 : Int32} {t17 : Int32} {t19 : Int32} {t21 : Int32} {t23 : Int32} {t25 : Int32} {t27 : Int32} {t29 : Int32} {t31 : Int32} (h0 : t1 = lg_cmp w (7168366 : Int64)) (h1 : ¬ (t1 = 0)) (h2 : t3 = lg_cmp w (1952541804 : Int64)) (h3 : ¬ (t3 = 0)) (h4 : t5 = lg_cmp w (2003395685 : Int64)) (h5 : ¬ (t5 = 0)) (h6 : t7 = lg_cmp w (444301539187 : Int64)) (h7 : ¬ (t7 = 0)) (h8 : t9 = lg_cmp w (1668243828 : Int64)) (h9 : ¬ (t9 = 0)) (h10 : t11 = lg_cmp w (1936023917 : Int64)) (h11 : ¬ (t11 = 0)) (h12 : t13 = lg_cmp w (2003792494 : Int64)) (h13 : ¬ (t13 = 0)) (h14 : t15 = lg_cmp w (6909036 : Int64)) (h15 : ¬ (t15 = 0)) (h16 : t17 = lg_cmp w (1700885369 : Int64)) (h17 : ¬ (t17 = 0)) (h18 : t19 = lg_cmp w (1651469428 : Int64)) (h19 : ¬ (t19 = 0)) (h20 : t21 = lg_cmp w (1818848101 : Int64)) (h21 : ¬ (t21 = 0)) (h22 : t23 = lg_cmp w (1918986606 : Int64)) (h23 : ¬ (t23 = 0)) (h24 : t25 = lg_cmp w (1685217655 : Int64)) (h25 : ¬ (t25 = 0)) (h26 : t27 = lg_cmp w (499984590964 : Int64)) (h27 : ¬ (t27 = 0)) (h28 : t29 = lg_cmp w (465726042981 : Int64)) (h29 : ¬ (t29 = 0)) (h30 : t31 = lg_cmp w (495673373300 : Int64)) (h31 : (t31 = 0)) : gsY_X11_isOwn_1 NF v f w g = 1 := by
  subst h0 h2 h4 h6 h8 h10 h12 h14 h16 h18 h20 h22 h24 h26 h28 h30
  simp only [gsY_X11_isOwn_1, if_neg h1, if_neg h3, if_neg h5, if_neg h7, if_neg h9, if_neg h11, if_neg h13, if_neg h15, if_neg h17, if_neg h19, if_neg h21, if_neg h23, if_neg h25, if_neg h27, if_neg h29, if_pos h31]
theorem gsY_X11_isOwn_1_q16 {NF : Nat} {v : Nat → Int32} {f : Nat → Nat → Int32} {w : Int64} {g : Nat → Int64} {t1 : Int32} {t3 : Int32} {t5 : Int32} {t7 : Int32} {t9 : Int32} {t11 : Int32} {t13 : Int32} {t15 : Int32} {t17 : Int32} {t19 : Int32} {t21 : Int32} {t23 : Int32} {t25 : Int32} {t27 : Int32} {t29 : Int32} {t31 : Int32} {t33 : Int32} (h0 : t1 = lg_cmp w (7168366 : Int64)) (h1 : ¬ (t1 = 0)) (h2 : t3 = lg_cmp w (1952541804 : Int64)) (h3 : ¬ (t3 = 0)) (h4 : t5 = lg_cmp w (2003395685 : Int64)) (h5 : ¬ (t5 = 0)) (h6 : t7 = lg_cmp w (444301539187 : Int64)) (h7 : ¬ (t7 = 0)) (h8 : t9 = lg_cmp w (1668243828 : Int64)) (h9 : ¬ (t9 = 0)) (h10 : t11 = lg_cmp w (1936023917 : Int64)) (h11 : ¬ (t11 = 0)) (h12 : t13 = lg_cmp w (2003792494 : Int64)) (h13 : ¬ (t13 = 0)) (h14 : t15 = lg_cmp w (6909036 : Int64)) (h15 : ¬ (t15 = 0)) (h16 : t17 = lg_cmp w (1700885369 : Int64)) (h17 : ¬ (t17 = 0)) (h18 : t19 = lg_cmp w (1651469428 : Int64)) (h19 : ¬ (t19 = 0)) (h20 : t21 = lg_cmp w (1818848101 : Int64)) (h21 : ¬ (t21 = 0)) (h22 : t23 = lg_cmp w (1918986606 : Int64)) (h23 : ¬ (t23 = 0)) (h24 : t25 = lg_cmp w (1685217655 : Int64)) (h25 : ¬ (t25 = 0)) (h26 : t27 = lg_cmp w (499984590964 : Int64)) (h27 : ¬ (t27 = 0)) (h28 : t29 = lg_cmp w (465726042981 : Int64)) (h29 : ¬ (t29 = 0)) (h30 : t31 = lg_cmp w (495673373300 : Int64)) (h31 : ¬ (t31 = 0)) (h32 : t33 = lg_cmp w (1819242087 : Int64)) (h33 : (t33 = 0)) : gsY_X11_isOwn_1 NF v f w g = 1 := by
  subst h0 h2 h4 h6 h8 h10 h12 h14 h16 h18 h20 h22 h24 h26 h28 h30 h32
  simp only [gsY_X11_isOwn_1, if_neg h1, if_neg h3, if_neg h5, if_neg h7, if_neg h9, if_neg h11, if_neg h13, if_neg h15, if_neg h17, if_neg h19, if_neg h21, if_neg h23, if_neg h25, if_neg h27, if_neg h29, if_neg h31, if_pos h33]
theorem gsY_X11_isOwn_1_q17 {NF : Nat} {v : Nat → Int32} {f : Nat → Nat → Int32} {w : Int64} {g : Nat → Int64} {t1 : Int32} {t3 : Int32} {t5 : Int32} {t7 : Int32} {t9 : Int32} {t11 : Int32} {t13 : Int32} {t15 : Int32} {t17 : Int32} {t19 : Int32} {t21 : Int32} {t23 : Int32} {t25 : Int32} {t27 : Int32} {t29 : Int32} {t31 : Int32} {t33 : Int32} {t35 : Int32} (h0 : t1 = lg_cmp w (7168366 : Int64)) (h1 : ¬ (t1 = 0)) (h2 : t3 = lg_cmp w (1952541804 : Int64)) (h3 : ¬ (t3 = 0)) (h4 : t5 = lg_cmp w (2003395685 : Int64)) (h5 : ¬ (t5 = 0)) (h6 : t7 = lg_cmp w (444301539187 : Int64)) (h7 : ¬ (t7 = 0)) (h8 : t9 = lg_cmp w (1668243828 : Int64)) (h9 : ¬ (t9 = 0)) (h10 : t11 = lg_cmp w (1936023917 : Int64)) (h11 : ¬ (t11 = 0)) (h12 : t13 = lg_cmp w (2003792494 : Int64)) (h13 : ¬ (t13 = 0)) (h14 : t15 = lg_cmp w (6909036 : Int64)) (h15 : ¬ (t15 = 0)) (h16 : t17 = lg_cmp w (1700885369 : Int64)) (h17 : ¬ (t17 = 0)) (h18 : t19 = lg_cmp w (1651469428 : Int64)) (h19 : ¬ (t19 = 0)) (h20 : t21 = lg_cmp w (1818848101 : Int64)) (h21 : ¬ (t21 = 0)) (h22 : t23 = lg_cmp w (1918986606 : Int64)) (h23 : ¬ (t23 = 0)) (h24 : t25 = lg_cmp w (1685217655 : Int64)) (h25 : ¬ (t25 = 0)) (h26 : t27 = lg_cmp w (499984590964 : Int64)) (h27 : ¬ (t27 = 0)) (h28 : t29 = lg_cmp w (465726042981 : Int64)) (h29 : ¬ (t29 = 0)) (h30 : t31 = lg_cmp w (495673373300 : Int64)) (h31 : ¬ (t31 = 0)) (h32 : t33 = lg_cmp w (1819242087 : Int64)) (h33 : ¬ (t33 = 0)) (h34 : t35 = lg_cmp w (6578553 : Int64)) (h35 : (t35 = 0)) : gsY_X11_isOwn_1 NF v f w g = 1 := by
  subst h0 h2 h4 h6 h8 h10 h12 h14 h16 h18 h20 h22 h24 h26 h28 h30 h32 h34
  simp only [gsY_X11_isOwn_1, if_neg h1, if_neg h3, if_neg h5, if_neg h7, if_neg h9, if_neg h11, if_neg h13, if_neg h15, if_neg h17, if_neg h19, if_neg h21, if_neg h23, if_neg h25, if_neg h27, if_neg h29, if_neg h31, if_neg h33, if_pos h35]
theorem gsY_X11_isOwn_1_q18 {NF : Nat} {v : Nat → Int32} {f : Nat → Nat → Int32} {w : Int64} {g : Nat → Int64} {t1 : Int32} {t3 : Int32} {t5 : Int32} {t7 : Int32} {t9 : Int32} {t11 : Int32} {t13 : Int32} {t15 : Int32} {t17 : Int32} {t19 : Int32} {t21 : Int32} {t23 : Int32} {t25 : Int32} {t27 : Int32} {t29 : Int32} {t31 : Int32} {t33 : Int32} {t35 : Int32} {t37 : Int32} (h0 : t1 = lg_cmp w (7168366 : Int64)) (h1 : ¬ (t1 = 0)) (h2 : t3 = lg_cmp w (1952541804 : Int64)) (h3 : ¬ (t3 = 0)) (h4 : t5 = lg_cmp w (2003395685 : Int64)) (h5 : ¬ (t5 = 0)) (h6 : t7 = lg_cmp w (444301539187 : Int64)) (h7 : ¬ (t7 = 0)) (h8 : t9 = lg_cmp w (1668243828 : Int64)) (h9 : ¬ (t9 = 0)) (h10 : t11 = lg_cmp w (1936023917 : Int64)) (h11 : ¬ (t11 = 0)) (h12 : t13 = lg_cmp w (2003792494 : Int64)) (h13 : ¬ (t13 = 0)) (h14 : t15 = lg_cmp w (6909036 : Int64)) (h15 : ¬ (t15 = 0)) (h16 : t17 = lg_cmp w (1700885369 : Int64)) (h17 : ¬ (t17 = 0)) (h18 : t19 = lg_cmp w (1651469428 : Int64)) (h19 : ¬ (t19 = 0)) (h20 : t21 = lg_cmp w (1818848101 : Int64)) (h21 : ¬ (t21 = 0)) (h22 : t23 = lg_cmp w (1918986606 : Int64)) (h23 : ¬ (t23 = 0)) (h24 : t25 = lg_cmp w (1685217655 : Int64)) (h25 : ¬ (t25 = 0)) (h26 : t27 = lg_cmp w (499984590964 : Int64)) (h27 : ¬ (t27 = 0)) (h28 : t29 = lg_cmp w (465726042981 : Int64)) (h29 : ¬ (t29 = 0)) (h30 : t31 = lg_cmp w (495673373300 : Int64)) (h31 : ¬ (t31 = 0)) (h32 : t33 = lg_cmp w (1819242087 : Int64)) (h33 : ¬ (t33 = 0)) (h34 : t35 = lg_cmp w (6578553 : Int64)) (h35 : ¬ (t35 = 0)) (h36 : t37 = lg_cmp w (6385252 : Int64)) (h37 : (t37 = 0)) : gsY_X11_isOwn_1 NF v f w g = 1 := by
  subst h0 h2 h4 h6 h8 h10 h12 h14 h16 h18 h20 h22 h24 h26 h28 h30 h32 h34 h36
  simp only [gsY_X11_isOwn_1, if_neg h1, if_neg h3, if_neg h5, if_neg h7, if_neg h9, if_neg h11, if_neg h13, if_neg h15, if_neg h17, if_neg h19, if_neg h21, if_neg h23, if_neg h25, if_neg h27, if_neg h29, if_neg h31, if_neg h33, if_neg h35, if_pos h37]
theorem gsY_X11_isOwn_1_q19 {NF : Nat} {v : Nat → Int32} {f : Nat → Nat → Int32} {w : Int64} {g : Nat → Int64} {t1 : Int32} {t3 : Int32} {t5 : Int32} {t7 : Int32} {t9 : Int32} {t11 : Int32} {t13 : Int32} {t15 : Int32} {t17 : Int32} {t19 : Int32} {t21 : Int32} {t23 : Int32} {t25 : Int32} {t27 : Int32} {t29 : Int32} {t31 : Int32} {t33 : Int32} {t35 : Int32} {t37 : Int32} {t39 : Int32} (h0 : t1 = lg_cmp w (7168366 : Int64)) (h1 : ¬ (t1 = 0)) (h2 : t3 = lg_cmp w (1952541804 : Int64)) (h3 : ¬ (t3 = 0)) (h4 : t5 = lg_cmp w (2003395685 : Int64)) (h5 : ¬ (t5 = 0)) (h6 : t7 = lg_cmp w (444301539187 : Int64)) (h7 : ¬ (t7 = 0)) (h8 : t9 = lg_cmp w (1668243828 : Int64)) (h9 : ¬ (t9 = 0)) (h10 : t11 = lg_cmp w (1936023917 : Int64)) (h11 : ¬ (t11 = 0)) (h12 : t13 = lg_cmp w (2003792494 : Int64)) (h13 : ¬ (t13 = 0)) (h14 : t15 = lg_cmp w (6909036 : Int64)) (h15 : ¬ (t15 = 0)) (h16 : t17 = lg_cmp w (1700885369 : Int64)) (h17 : ¬ (t17 = 0)) (h18 : t19 = lg_cmp w (1651469428 : Int64)) (h19 : ¬ (t19 = 0)) (h20 : t21 = lg_cmp w (1818848101 : Int64)) (h21 : ¬ (t21 = 0)) (h22 : t23 = lg_cmp w (1918986606 : Int64)) (h23 : ¬ (t23 = 0)) (h24 : t25 = lg_cmp w (1685217655 : Int64)) (h25 : ¬ (t25 = 0)) (h26 : t27 = lg_cmp w (499984590964 : Int64)) (h27 : ¬ (t27 = 0)) (h28 : t29 = lg_cmp w (465726042981 : Int64)) (h29 : ¬ (t29 = 0)) (h30 : t31 = lg_cmp w (495673373300 : Int64)) (h31 : ¬ (t31 = 0)) (h32 : t33 = lg_cmp w (1819242087 : Int64)) (h33 : ¬ (t33 = 0)) (h34 : t35 = lg_cmp w (6578553 : Int64)) (h35 : ¬ (t35 = 0)) (h36 : t37 = lg_cmp w (6385252 : Int64)) (h37 : ¬ (t37 = 0)) (h38 : t39 = lg_cmp w (28530 : Int64)) (h39 : (t39 = 0)) : gsY_X11_isOwn_1 NF v f w g = 1 := by
  subst h0 h2 h4 h6 h8 h10 h12 h14 h16 h18 h20 h22 h24 h26 h28 h30 h32 h34 h36 h38
  simp only [gsY_X11_isOwn_1, if_neg h1, if_neg h3, if_neg h5, if_neg h7, if_neg h9, if_neg h11, if_neg h13, if_neg h15, if_neg h17, if_neg h19, if_neg h21, if_neg h23, if_neg h25, if_neg h27, if_neg h29, if_neg h31, if_neg h33, if_neg h35, if_neg h37, if_pos h39]
theorem gsY_X11_isOwn_1_q20 {NF : Nat} {v : Nat → Int32} {f : Nat → Nat → Int32} {w : Int64} {g : Nat → Int64} {t1 : Int32} {t3 : Int32} {t5 : Int32} {t7 : Int32} {t9 : Int32} {t11 : Int32} {t13 : Int32} {t15 : Int32} {t17 : Int32} {t19 : Int32} {t21 : Int32} {t23 : Int32} {t25 : Int32} {t27 : Int32} {t29 : Int32} {t31 : Int32} {t33 : Int32} {t35 : Int32} {t37 : Int32} {t39 : Int32} {t41 : Int32} (h0 : t1 = lg_cmp w (7168366 : Int64)) (h1 : ¬ (t1 = 0)) (h2 : t3 = lg_cmp w (1952541804 : Int64)) (h3 : ¬ (t3 = 0)) (h4 : t5 = lg_cmp w (2003395685 : Int64)) (h5 : ¬ (t5 = 0)) (h6 : t7 = lg_cmp w (444301539187 : Int64)) (h7 : ¬ (t7 = 0)) (h8 : t9 = lg_cmp w (1668243828 : Int64)) (h9 : ¬ (t9 = 0)) (h10 : t11 = lg_cmp w (1936023917 : Int64)) (h11 : ¬ (t11 = 0)) (h12 : t13 = lg_cmp w (2003792494 : Int64)) (h13 : ¬ (t13 = 0)) (h14 : t15 = lg_cmp w (6909036 : Int64)) (h15 : ¬ (t15 = 0)) (h16 : t17 = lg_cmp w (1700885369 : Int64)) (h17 : ¬ (t17 = 0)) (h18 : t19 = lg_cmp w (1651469428 : Int64)) (h19 : ¬ (t19 = 0)) (h20 : t21 = lg_cmp w (1818848101 : Int64)) (h21 : ¬ (t21 = 0)) (h22 : t23 = lg_cmp w (1918986606 : Int64)) (h23 : ¬ (t23 = 0)) (h24 : t25 = lg_cmp w (1685217655 : Int64)) (h25 : ¬ (t25 = 0)) (h26 : t27 = lg_cmp w (499984590964 : Int64)) (h27 : ¬ (t27 = 0)) (h28 : t29 = lg_cmp w (465726042981 : Int64)) (h29 : ¬ (t29 = 0)) (h30 : t31 = lg_cmp w (495673373300 : Int64)) (h31 : ¬ (t31 = 0)) (h32 : t33 = lg_cmp w (1819242087 : Int64)) (h33 : ¬ (t33 = 0)) (h34 : t35 = lg_cmp w (6578553 : Int64)) (h35 : ¬ (t35 = 0)) (h36 : t37 = lg_cmp w (6385252 : Int64)) (h37 : ¬ (t37 = 0)) (h38 : t39 = lg_cmp w (28530 : Int64)) (h39 : ¬ (t39 = 0)) (h40 : t41 = lg_cmp w (7237492 : Int64)) (h41 : ¬ (t41 = 0)) : gsY_X11_isOwn_1 NF v f w g = 0 := by
  subst h0 h2 h4 h6 h8 h10 h12 h14 h16 h18 h20 h22 h24 h26 h28 h30 h32 h34 h36 h38 h40
  simp only [gsY_X11_isOwn_1, if_neg h1, if_neg h3, if_neg h5, if_neg h7, if_neg h9, if_neg h11, if_neg h13, if_neg h15, if_neg h17, if_neg h19, if_neg h21, if_neg h23, if_neg h25, if_neg h27, if_neg h29, if_neg h31, if_neg h33, if_neg h35, if_neg h37, if_neg h39, if_neg h41]
theorem gsY_X11_isOwn_1_q21 {NF : Nat} {v : Nat → Int32} {f : Nat → Nat → Int32} {w : Int64} {g : Nat → Int64} {t1 : Int32} {t3 : Int32} {t5 : Int32} {t7 : Int32} {t9 : Int32} {t11 : Int32} {t13 : Int32} {t15 : Int32} {t17 : Int32} {t19 : Int32} {t21 : Int32} {t23 : Int32} {t25 : Int32} {t27 : Int32} {t29 : Int32} {t31 : Int32} {t33 : Int32} {t35 : Int32} {t37 : Int32} {t39 : Int32} {t41 : Int32} (h0 : t1 = lg_cmp w (7168366 : Int64)) (h1 : ¬ (t1 = 0)) (h2 : t3 = lg_cmp w (1952541804 : Int64)) (h3 : ¬ (t3 = 0)) (h4 : t5 = lg_cmp w (2003395685 : Int64)) (h5 : ¬ (t5 = 0)) (h6 : t7 = lg_cmp w (444301539187 : Int64)) (h7 : ¬ (t7 = 0)) (h8 : t9 = lg_cmp w (1668243828 : Int64)) (h9 : ¬ (t9 = 0)) (h10 : t11 = lg_cmp w (1936023917 : Int64)) (h11 : ¬ (t11 = 0)) (h12 : t13 = lg_cmp w (2003792494 : Int64)) (h13 : ¬ (t13 = 0)) (h14 : t15 = lg_cmp w (6909036 : Int64)) (h15 : ¬ (t15 = 0)) (h16 : t17 = lg_cmp w (1700885369 : Int64)) (h17 : ¬ (t17 = 0)) (h18 : t19 = lg_cmp w (1651469428 : Int64)) (h19 : ¬ (t19 = 0)) (h20 : t21 = lg_cmp w (1818848101 : Int64)) (h21 : ¬ (t21 = 0)) (h22 : t23 = lg_cmp w (1918986606 : Int64)) (h23 : ¬ (t23 = 0)) (h24 : t25 = lg_cmp w (1685217655 : Int64)) (h25 : ¬ (t25 = 0)) (h26 : t27 = lg_cmp w (499984590964 : Int64)) (h27 : ¬ (t27 = 0)) (h28 : t29 = lg_cmp w (465726042981 : Int64)) (h29 : ¬ (t29 = 0)) (h30 : t31 = lg_cmp w (495673373300 : Int64)) (h31 : ¬ (t31 = 0)) (h32 : t33 = lg_cmp w (1819242087 : Int64)) (h33 : ¬ (t33 = 0)) (h34 : t35 = lg_cmp w (6578553 : Int64)) (h35 : ¬ (t35 = 0)) (h36 : t37 = lg_cmp w (6385252 : Int64)) (h37 : ¬ (t37 = 0)) (h38 : t39 = lg_cmp w (28530 : Int64)) (h39 : ¬ (t39 = 0)) (h40 : t41 = lg_cmp w (7237492 : Int64)) (h41 : (t41 = 0)) : gsY_X11_isOwn_1 NF v f w g = 1 := by
  subst h0 h2 h4 h6 h8 h10 h12 h14 h16 h18 h20 h22 h24 h26 h28 h30 h32 h34 h36 h38 h40
  simp only [gsY_X11_isOwn_1, if_neg h1, if_neg h3, if_neg h5, if_neg h7, if_neg h9, if_neg h11, if_neg h13, if_neg h15, if_neg h17, if_neg h19, if_neg h21, if_neg h23, if_neg h25, if_neg h27, if_neg h29, if_neg h31, if_neg h33, if_neg h35, if_neg h37, if_neg h39, if_pos h41]
