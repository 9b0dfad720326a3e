def gsY_X11_day_1 (NF : Nat) (v : Nat → Int32) (f : Nat → Nat → Int32) (w : Int64) (g : Nat → Int64) : Int32 × (Nat → Int32) × (Nat → Nat → Int32) × (Int64) × (Nat → Int64) :=
  let t1 : Int32 := f 23 (37 : Int32).toNatClampNeg
  if t1 = 999 then
    ((-1), v, f, w, g)
  else
    match gsY_X11_act_1 NF v f w g with
    | (v4, f5, w6, g7) =>
      match gsY_X11_drawRain_1 NF v4 f5 w6 g7 with
      | (r8, v10, f11, w12, g13) =>
        if r8 = 1 then
          match gsY_X11_goDay_1 NF 1 v10 f11 w12 g13 with
          | (r15, v17, f18, w19, g20) =>
            match gsY_X11_keepAir_1 NF v17 f18 w19 g20 with
            | (v22, f23, w24, g25) =>
              (r15, v22, f23, w24, g25)
        else
          match gsY_X11_goDay_1 NF 0 v10 f11 w12 g13 with
          | (r26, v28, f29, w30, g31) =>
            match gsY_X11_keepAir_1 NF v28 f29 w30 g31 with
            | (v33, f34, w35, g36) =>
              (r26, v33, f34, w35, g36)
theorem gsY_X11_day_1_q0 {NF : Nat} {v : Nat → Int32} {f : Nat → Nat → Int32} {w : Int64} {g : Nat → Int64} {t1 : Int32} {v4 : Nat → Int32} {f5 : Nat → Nat → Int32} {w6 : Int64} {g7 : Nat → Int64} {v10 : Nat → Int32} {f11 : Nat → Nat → Int32} {w12 : Int64} {g13 : Nat → Int64} {r15 : Int32} {v17 : Nat → Int32} {f18 : Nat → Nat → Int32} {w19 : Int64} {g20 : Nat → Int64} {v22 : Nat → Int32} {f23 : Nat → Nat → Int32} {w24 : Int64} {g25 : Nat → Int64} (h0 : t1 = f 23 (37 : Int32).toNatClampNeg) (h1 : ¬ (t1 = 999)) (h2 : gsY_X11_act_1 NF v f w g = (v4, f5, w6, g7)) (h3 : gsY_X11_drawRain_1 NF v4 f5 w6 g7 = (1, v10, f11, w12, g13)) (h5 : gsY_X11_goDay_1 NF 1 v10 f11 w12 g13 = (r15, v17, f18, w19, g20)) (h6 : gsY_X11_keepAir_1 NF v17 f18 w19 g20 = (v22, f23, w24, g25)) : gsY_X11_day_1 NF v f w g = (r15, v22, f23, w24, g25) := by
  subst h0
  simp only [gsY_X11_day_1, if_neg h1, h2, h3, h5, h6, ite11, ite01, if_true, if_false]
theorem gsY_X11_day_1_q1 {NF : Nat} {v : Nat → Int32} {f : Nat → Nat → Int32} {w : Int64} {g : Nat → Int64} {t1 : Int32} {v4 : Nat → Int32} {f5 : Nat → Nat → Int32} {w6 : Int64} {g7 : Nat → Int64} {v10 : Nat → Int32} {f11 : Nat → Nat → Int32} {w12 : Int64} {g13 : Nat → Int64} {r26 : Int32} {v28 : Nat → Int32} {f29 : Nat → Nat → Int32} {w30 : Int64} {g31 : Nat → Int64} {v33 : Nat → Int32} {f34 : Nat → Nat → Int32} {w35 : Int64} {g36 : Nat → Int64} (h0 : t1 = f 23 (37 : Int32).toNatClampNeg) (h1 : ¬ (t1 = 999)) (h2 : gsY_X11_act_1 NF v f w g = (v4, f5, w6, g7)) (h3 : gsY_X11_drawRain_1 NF v4 f5 w6 g7 = (0, v10, f11, w12, g13)) (h5 : gsY_X11_goDay_1 NF 0 v10 f11 w12 g13 = (r26, v28, f29, w30, g31)) (h6 : gsY_X11_keepAir_1 NF v28 f29 w30 g31 = (v33, f34, w35, g36)) : gsY_X11_day_1 NF v f w g = (r26, v33, f34, w35, g36) := by
  subst h0
  simp only [gsY_X11_day_1, if_neg h1, h2, h3, h5, h6, ite11, ite01, if_true, if_false]
theorem gsY_X11_day_1_q2 {NF : Nat} {v : Nat → Int32} {f : Nat → Nat → Int32} {w : Int64} {g : Nat → Int64} {t1 : Int32} (h0 : t1 = f 23 (37 : Int32).toNatClampNeg) (h1 : (t1 = 999)) : gsY_X11_day_1 NF v f w g = ((-1), v, f, w, g) := by
  subst h0
  simp only [gsY_X11_day_1, if_pos h1]
def gsY_X11_don_1 (NF : Nat) (p1 : Int32) (p2 : Int32) (v : Nat → Int32) (f : Nat → Nat → Int32) (w : Int64) (g : Nat → Int64) : Int32 × (Nat → Int32) × (Nat → Nat → Int32) × (Int64) × (Nat → Int64) :=
  match gsY_X11_fill_1 NF v f w g with
  | (v2, f3, w4, g5) =>
    if gsY_X11_isMan_1 NF p1 v2 f3 w4 g5 = 1 then
      if gsY_X11_isCoat_1 NF p2 v2 f3 w4 g5 = 1 then
        let r12 : Int32 := gsY_X11_wearer_1 NF p2 v2 f3 w4 g5
        if r12 < 0 then
          match gsY_X11_act_1 NF v2 f3 w4 g5 with
          | (v16, f17, w18, g19) =>
            let t20 : Int32 := 6 + p1
            let t22 : Int32 := f17 23 (t20).toNatClampNeg
            let f23 : Nat → Nat → Int32 := upd2 f17 23 (upd (f17 23) t20.toNatClampNeg p2)
            (t22, v16, f23, w18, g19)
        else
          ((-2), v2, f3, w4, g5)
      else
        ((-2), v2, f3, w4, g5)
    else
      ((-2), v2, f3, w4, g5)
theorem gsY_X11_don_1_q0 {NF : Nat} {p1 : Int32} {p2 : Int32} {v : Nat → Int32} {f : Nat → Nat → Int32} {w : Int64} {g : Nat → Int64} {v2 : Nat → Int32} {f3 : Nat → Nat → Int32} {w4 : Int64} {g5 : Nat → Int64} {r12 : Int32} {v16 : Nat → Int32} {f17 : Nat → Nat → Int32} {w18 : Int64} {g19 : Nat → Int64} {t20 : Int32} {t22 : Int32} {f23 : Nat → Nat → Int32} (h0 : gsY_X11_fill_1 NF v f w g = (v2, f3, w4, g5)) (h1 : gsY_X11_isMan_1 NF p1 v2 f3 w4 g5 = 1) (h2 : gsY_X11_isCoat_1 NF p2 v2 f3 w4 g5 = 1) (h3 : r12 = gsY_X11_wearer_1 NF p2 v2 f3 w4 g5) (h4 : (r12 < 0)) (h5 : gsY_X11_act_1 NF v2 f3 w4 g5 = (v16, f17, w18, g19)) (h6 : t20 = 6 + p1) (h7 : t22 = f17 23 (t20).toNatClampNeg) (h8 : f23 = upd2 f17 23 (upd (f17 23) t20.toNatClampNeg p2)) : gsY_X11_don_1 NF p1 p2 v f w g = (t22, v16, f23, w18, g19) := by
  subst h3 h6 h7 h8
  simp only [gsY_X11_don_1, h0, h1, h2, if_pos h4, h5, ite11, ite01, if_true, if_false]
theorem gsY_X11_don_1_q1 {NF : Nat} {p1 : Int32} {p2 : Int32} {v : Nat → Int32} {f : Nat → Nat → Int32} {w : Int64} {g : Nat → Int64} {v2 : Nat → Int32} {f3 : Nat → Nat → Int32} {w4 : Int64} {g5 : Nat → Int64} {r12 : Int32} (h0 : gsY_X11_fill_1 NF v f w g = (v2, f3, w4, g5)) (h1 : gsY_X11_isMan_1 NF p1 v2 f3 w4 g5 = 1) (h2 : gsY_X11_isCoat_1 NF p2 v2 f3 w4 g5 = 1) (h3 : r12 = gsY_X11_wearer_1 NF p2 v2 f3 w4 g5) (h4 : ¬ (r12 < 0)) : gsY_X11_don_1 NF p1 p2 v f w g = ((-2), v2, f3, w4, g5) := by
  subst h3
  simp only [gsY_X11_don_1, h0, h1, h2, if_neg h4, ite11, ite01, if_true, if_false]
theorem gsY_X11_don_1_q2 {NF : Nat} {p1 : Int32} {p2 : Int32} {v : Nat → Int32} {f : Nat → Nat → Int32} {w : Int64} {g : Nat → Int64} {v2 : Nat → Int32} {f3 : Nat → Nat → Int32} {w4 : Int64} {g5 : Nat → Int64} (h0 : gsY_X11_fill_1 NF v f w g = (v2, f3, w4, g5)) (h1 : gsY_X11_isMan_1 NF p1 v2 f3 w4 g5 = 1) (h2 : gsY_X11_isCoat_1 NF p2 v2 f3 w4 g5 = 0) : gsY_X11_don_1 NF p1 p2 v f w g = ((-2), v2, f3, w4, g5) := by
  simp only [gsY_X11_don_1, h0, h1, h2, ite11, ite01, if_true, if_false]
theorem gsY_X11_don_1_q3 {NF : Nat} {p1 : Int32} {p2 : Int32} {v : Nat → Int32} {f : Nat → Nat → Int32} {w : Int64} {g : Nat → Int64} {v2 : Nat → Int32} {f3 : Nat → Nat → Int32} {w4 : Int64} {g5 : Nat → Int64} (h0 : gsY_X11_fill_1 NF v f w g = (v2, f3, w4, g5)) (h1 : gsY_X11_isMan_1 NF p1 v2 f3 w4 g5 = 0) : gsY_X11_don_1 NF p1 p2 v f w g = ((-2), v2, f3, w4, g5) := by
  simp only [gsY_X11_don_1, h0, h1, ite11, ite01, if_true, if_false]
def gsY_X11_doff_1 (NF : Nat) (p1 : Int32) (v : Nat → Int32) (f : Nat → Nat → Int32) (w : Int64) (g : Nat → Int64) : Int32 × (Nat → Int32) × (Nat → Nat → Int32) × (Int64) × (Nat → Int64) :=
  if gsY_X11_isMan_1 NF p1 v f w g = 1 then
    let t4 : Int32 := 6 + p1
    let t6 : Int32 := f 23 (t4).toNatClampNeg
    if 0 ≤ t6 then
      match gsY_X11_act_1 NF v f w g with
      | (v9, f10, w11, g12) =>
        let t13 : Int32 := f10 23 (t4).toNatClampNeg
        let f14 : Nat → Nat → Int32 := upd2 f10 23 (upd (f10 23) t4.toNatClampNeg (-1))
        (t13, v9, f14, w11, g12)
    else
      ((-1), v, f, w, g)
  else
    ((-1), v, f, w, g)
theorem gsY_X11_doff_1_q0 {NF : Nat} {p1 : Int32} {v : Nat → Int32} {f : Nat → Nat → Int32} {w : Int64} {g : Nat → Int64} {t4 : Int32} {t6 : Int32} {v9 : Nat → Int32} {f10 : Nat → Nat → Int32} {w11 : Int64} {g12 : Nat → Int64} {t13 : Int32} {f14 : Nat → Nat → Int32} (h0 : gsY_X11_isMan_1 NF p1 v f w g = 1) (h1 : t4 = 6 + p1) (h2 : t6 = f 23 (t4).toNatClampNeg) (h3 : (0 ≤ t6)) (h4 : gsY_X11_act_1 NF v f w g = (v9, f10, w11, g12)) (h5 : t13 = f10 23 (t4).toNatClampNeg) (h6 : f14 = upd2 f10 23 (upd (f10 23) t4.toNatClampNeg (-1))) : gsY_X11_doff_1 NF p1 v f w g = (t13, v9, f14, w11, g12) := by
  subst h1 h2 h5 h6
  simp only [gsY_X11_doff_1, h0, if_pos h3, h4, ite11, ite01, if_true, if_false]
theorem gsY_X11_doff_1_q1 {NF : Nat} {p1 : Int32} {v : Nat → Int32} {f : Nat → Nat → Int32} {w : Int64} {g : Nat → Int64} {t4 : Int32} {t6 : Int32} (h0 : gsY_X11_isMan_1 NF p1 v f w g = 1) (h1 : t4 = 6 + p1) (h2 : t6 = f 23 (t4).toNatClampNeg) (h3 : ¬ (0 ≤ t6)) : gsY_X11_doff_1 NF p1 v f w g = ((-1), v, f, w, g) := by
  subst h1 h2
  simp only [gsY_X11_doff_1, h0, if_neg h3, ite11, ite01, if_true, if_false]
theorem gsY_X11_doff_1_q2 {NF : Nat} {p1 : Int32} {v : Nat → Int32} {f : Nat → Nat → Int32} {w : Int64} {g : Nat → Int64} (h0 : gsY_X11_isMan_1 NF p1 v f w g = 0) : gsY_X11_doff_1 NF p1 v f w g = ((-1), v, f, w, g) := by
  simp only [gsY_X11_doff_1, h0, ite11, ite01, if_true, if_false]
def gsY_X11_letout_1 (NF : Nat) (p1 : Int32) (p2 : Int32) (v : Nat → Int32) (f : Nat → Nat → Int32) (w : Int64) (g : Nat → Int64) : Int32 × (Nat → Int32) × (Nat → Nat → Int32) × (Int64) × (Nat → Int64) :=
  if gsY_X11_isCoat_1 NF p1 v f w g = 1 then
    let t4 : Int32 := 24 + p1
    let t6 : Int32 := f 23 (t4).toNatClampNeg
    if gsY_X11_isIn_1 NF p2 1 t6 v f w g = 1 then
      let t11 : Int32 := 18 + p1
      let t12 : Int32 := f 23 (t11).toNatClampNeg
      let t13 : Int32 := t12 + p2
      if t13 ≤ 99 then
        match gsY_X11_act_1 NF v f w g with
        | (v16, f17, w18, g19) =>
          let t20 : Int32 := f17 23 (t4).toNatClampNeg
          let t21 : Int32 := t20 - p2
          let f22 : Nat → Nat → Int32 := upd2 f17 23 (upd (f17 23) t4.toNatClampNeg t21)
          let t23 : Int32 := f22 23 (t11).toNatClampNeg
          let t24 : Int32 := t23 + p2
          let f25 : Nat → Nat → Int32 := upd2 f22 23 (upd (f22 23) t11.toNatClampNeg t24)
          let t26 : Int32 := f25 23 (t11).toNatClampNeg
          (t26, v16, f25, w18, g19)
      else
        ((-1), v, f, w, g)
    else
      ((-1), v, f, w, g)
  else
    ((-1), v, f, w, g)
theorem gsY_X11_letout_1_q0 {NF : Nat} {p1 : Int32} {p2 : Int32} {v : Nat → Int32} {f : Nat → Nat → Int32} {w : Int64} {g : Nat → Int64} {t4 : Int32} {t6 : Int32} {t11 : Int32} {t12 : Int32} {t13 : Int32} {v16 : Nat → Int32} {f17 : Nat → Nat → Int32} {w18 : Int64} {g19 : Nat → Int64} {t20 : Int32} {t21 : Int32} {f22 : Nat → Nat → Int32} {t23 : Int32} {t24 : Int32} {f25 : Nat → Nat → Int32} {t26 : Int32} (h0 : gsY_X11_isCoat_1 NF p1 v f w g = 1) (h1 : t4 = 24 + p1) (h2 : t6 = f 23 (t4).toNatClampNeg) (h3 : gsY_X11_isIn_1 NF p2 1 t6 v f w g = 1) (h4 : t11 = 18 + p1) (h5 : t12 = f 23 (t11).toNatClampNeg) (h6 : t13 = t12 + p2) (h7 : (t13 ≤ 99)) (h8 : gsY_X11_act_1 NF v f w g = (v16, f17, w18, g19)) (h9 : t20 = f17 23 (t4).toNatClampNeg) (h10 : t21 = t20 - p2) (h11 : f22 = upd2 f17 23 (upd (f17 23) t4.toNatClampNeg t21)) (h12 : t23 = f22 23 (t11).toNatClampNeg) (h13 : t24 = t23 + p2) (h14 : f25 = upd2 f22 23 (upd (f22 23) t11.toNatClampNeg t24)) (h15 : t26 = f25 23 (t11).toNatClampNeg) : gsY_X11_letout_1 NF p1 p2 v f w g = (t26, v16, f25, w18, g19) := by
  subst h1 h2 h4 h5 h6 h9 h10 h11 h12 h13 h14 h15
  simp only [gsY_X11_letout_1, h0, h3, if_pos h7, h8, ite11, ite01, if_true, if_false]
theorem gsY_X11_letout_1_q1 {NF : Nat} {p1 : Int32} {p2 : Int32} {v : Nat → Int32} {f : Nat → Nat → Int32} {w : Int64} {g : Nat → Int64} {t4 : Int32} {t6 : Int32} {t11 : Int32} {t12 : Int32} {t13 : Int32} (h0 : gsY_X11_isCoat_1 NF p1 v f w g = 1) (h1 : t4 = 24 + p1) (h2 : t6 = f 23 (t4).toNatClampNeg) (h3 : gsY_X11_isIn_1 NF p2 1 t6 v f w g = 1) (h4 : t11 = 18 + p1) (h5 : t12 = f 23 (t11).toNatClampNeg) (h6 : t13 = t12 + p2) (h7 : ¬ (t13 ≤ 99)) : gsY_X11_letout_1 NF p1 p2 v f w g = ((-1), v, f, w, g) := by
  subst h1 h2 h4 h5 h6
  simp only [gsY_X11_letout_1, h0, h3, if_neg h7, ite11, ite01, if_true, if_false]
theorem gsY_X11_letout_1_q2 {NF : Nat} {p1 : Int32} {p2 : Int32} {v : Nat → Int32} {f : Nat → Nat → Int32} {w : Int64} {g : Nat → Int64} {t4 : Int32} {t6 : Int32} (h0 : gsY_X11_isCoat_1 NF p1 v f w g = 1) (h1 : t4 = 24 + p1) (h2 : t6 = f 23 (t4).toNatClampNeg) (h3 : gsY_X11_isIn_1 NF p2 1 t6 v f w g = 0) : gsY_X11_letout_1 NF p1 p2 v f w g = ((-1), v, f, w, g) := by
  subst h1 h2
  simp only [gsY_X11_letout_1, h0, h3, ite11, ite01, if_true, if_false]
theorem gsY_X11_letout_1_q3 {NF : Nat} {p1 : Int32} {p2 : Int32} {v : Nat → Int32} {f : Nat → Nat → Int32} {w : Int64} {g : Nat → Int64} (h0 : gsY_X11_isCoat_1 NF p1 v f w g = 0) : gsY_X11_letout_1 NF p1 p2 v f w g = ((-1), v, f, w, g) := by
  simp only [gsY_X11_letout_1, h0, ite11, ite01, if_true, if_false]
def gsY_X11_takein_1 (NF : Nat) (p1 : Int32) (p2 : Int32) (v : Nat → Int32) (f : Nat → Nat → Int32) (w : Int64) (g : Nat → Int64) : Int32 × (Nat → Int32) × (Nat → Nat → Int32) × (Int64) × (Nat → Int64) :=
  if gsY_X11_isCoat_1 NF p1 v f w g = 1 then
    let t4 : Int32 := 18 + p1
    let t6 : Int32 := f 23 (t4).toNatClampNeg
    if gsY_X11_isIn_1 NF p2 1 t6 v f w g = 1 then
      let t11 : Int32 := 24 + p1
      let t12 : Int32 := f 23 (t11).toNatClampNeg
      let t13 : Int32 := t12 + p2
      if t13 ≤ 99 then
        match gsY_X11_act_1 NF v f w g with
        | (v16, f17, w18, g19) =>
          let t20 : Int32 := f17 23 (t11).toNatClampNeg
          let t21 : Int32 := t20 + p2
          let f22 : Nat → Nat → Int32 := upd2 f17 23 (upd (f17 23) t11.toNatClampNeg t21)
          let t23 : Int32 := f22 23 (t4).toNatClampNeg
          let t24 : Int32 := t23 - p2
          let f25 : Nat → Nat → Int32 := upd2 f22 23 (upd (f22 23) t4.toNatClampNeg t24)
          let t26 : Int32 := f25 23 (t4).toNatClampNeg
          (t26, v16, f25, w18, g19)
      else
        ((-1), v, f, w, g)
    else
      ((-1), v, f, w, g)
  else
    ((-1), v, f, w, g)
theorem gsY_X11_takein_1_q0 {NF : Nat} {p1 : Int32} {p2 : Int32} {v : Nat → Int32} {f : Nat → Nat → Int32} {w : Int64} {g : Nat → Int64} {t4 : Int32} {t6 : Int32} {t11 : Int32} {t12 : Int32} {t13 : Int32} {v16 : Nat → Int32} {f17 : Nat → Nat → Int32} {w18 : Int64} {g19 : Nat → Int64} {t20 : Int32} {t21 : Int32} {f22 : Nat → Nat → Int32} {t23 : Int32} {t24 : Int32} {f25 : Nat → Nat → Int32} {t26 : Int32} (h0 : gsY_X11_isCoat_1 NF p1 v f w g = 1) (h1 : t4 = 18 + p1) (h2 : t6 = f 23 (t4).toNatClampNeg) (h3 : gsY_X11_isIn_1 NF p2 1 t6 v f w g = 1) (h4 : t11 = 24 + p1) (h5 : t12 = f 23 (t11).toNatClampNeg) (h6 : t13 = t12 + p2) (h7 : (t13 ≤ 99)) (h8 : gsY_X11_act_1 NF v f w g = (v16, f17, w18, g19)) (h9 : t20 = f17 23 (t11).toNatClampNeg) (h10 : t21 = t20 + p2) (h11 : f22 = upd2 f17 23 (upd (f17 23) t11.toNatClampNeg t21)) (h12 : t23 = f22 23 (t4).toNatClampNeg) (h13 : t24 = t23 - p2) (h14 : f25 = upd2 f22 23 (upd (f22 23) t4.toNatClampNeg t24)) (h15 : t26 = f25 23 (t4).toNatClampNeg) : gsY_X11_takein_1 NF p1 p2 v f w g = (t26, v16, f25, w18, g19) := by
  subst h1 h2 h4 h5 h6 h9 h10 h11 h12 h13 h14 h15
  simp only [gsY_X11_takein_1, h0, h3, if_pos h7, h8, ite11, ite01, if_true, if_false]
theorem gsY_X11_takein_1_q1 {NF : Nat} {p1 : Int32} {p2 : Int32} {v : Nat → Int32} {f : Nat → Nat → Int32} {w : Int64} {g : Nat → Int64} {t4 : Int32} {t6 : Int32} {t11 : Int32} {t12 : Int32} {t13 : Int32} (h0 : gsY_X11_isCoat_1 NF p1 v f w g = 1) (h1 : t4 = 18 + p1) (h2 : t6 = f 23 (t4).toNatClampNeg) (h3 : gsY_X11_isIn_1 NF p2 1 t6 v f w g = 1) (h4 : t11 = 24 + p1) (h5 : t12 = f 23 (t11).toNatClampNeg) (h6 : t13 = t12 + p2) (h7 : ¬ (t13 ≤ 99)) : gsY_X11_takein_1 NF p1 p2 v f w g = ((-1), v, f, w, g) := by
  subst h1 h2 h4 h5 h6
  simp only [gsY_X11_takein_1, h0, h3, if_neg h7, ite11, ite01, if_true, if_false]
theorem gsY_X11_takein_1_q2 {NF : Nat} {p1 : Int32} {p2 : Int32} {v : Nat → Int32} {f : Nat → Nat → Int32} {w : Int64} {g : Nat → Int64} {t4 : Int32} {t6 : Int32} (h0 : gsY_X11_isCoat_1 NF p1 v f w g = 1) (h1 : t4 = 18 + p1) (h2 : t6 = f 23 (t4).toNatClampNeg) (h3 : gsY_X11_isIn_1 NF p2 1 t6 v f w g = 0) : gsY_X11_takein_1 NF p1 p2 v f w g = ((-1), v, f, w, g) := by
  subst h1 h2
  simp only [gsY_X11_takein_1, h0, h3, ite11, ite01, if_true, if_false]
theorem gsY_X11_takein_1_q3 {NF : Nat} {p1 : Int32} {p2 : Int32} {v : Nat → Int32} {f : Nat → Nat → Int32} {w : Int64} {g : Nat → Int64} (h0 : gsY_X11_isCoat_1 NF p1 v f w g = 0) : gsY_X11_takein_1 NF p1 p2 v f w g = ((-1), v, f, w, g) := by
  simp only [gsY_X11_takein_1, h0, ite11, ite01, if_true, if_false]
