def gsY_X11_isIn_1 (NF : Nat) (p0 : Int32) (p1 : Int32) (p2 : Int32) (v : Nat → Int32) (f : Nat → Nat → Int32) (w : Int64) (g : Nat → Int64) : Int32 :=
  if p0 < p1 then
    0
  else
    if p2 < p0 then
      0
    else
      1
theorem gsY_X11_isIn_1_q0 {NF : Nat} {p0 : Int32} {p1 : Int32} {p2 : Int32} {v : Nat → Int32} {f : Nat → Nat → Int32} {w : Int64} {g : Nat → Int64} (h0 : (p0 < p1)) : gsY_X11_isIn_1 NF p0 p1 p2 v f w g = 0 := by
  simp only [gsY_X11_isIn_1, if_pos h0]
theorem gsY_X11_isIn_1_q1 {NF : Nat} {p0 : Int32} {p1 : Int32} {p2 : Int32} {v : Nat → Int32} {f : Nat → Nat → Int32} {w : Int64} {g : Nat → Int64} (h0 : ¬ (p0 < p1)) (h1 : (p2 < p0)) : gsY_X11_isIn_1 NF p0 p1 p2 v f w g = 0 := by
  simp only [gsY_X11_isIn_1, if_neg h0, if_pos h1]
theorem gsY_X11_isIn_1_q2 {NF : Nat} {p0 : Int32} {p1 : Int32} {p2 : Int32} {v : Nat → Int32} {f : Nat → Nat → Int32} {w : Int64} {g : Nat → Int64} (h0 : ¬ (p0 < p1)) (h1 : ¬ (p2 < p0)) : gsY_X11_isIn_1 NF p0 p1 p2 v f w g = 1 := by
  simp only [gsY_X11_isIn_1, if_neg h0, if_neg h1]
def gsY_X11_seen_1 (NF : Nat) (p1 : Int32) (p2 : Int32) (v : Nat → Int32) (f : Nat → Nat → Int32) (w : Int64) (g : Nat → Int64) : Int32 × (Nat → Int32) × (Nat → Nat → Int32) × (Int64) × (Nat → Int64) :=
  if gsY_X11_isIn_1 NF p1 0 20 v f w g = 1 then
    if (v 24) = 0 then
      ((-1), v, f, w, g)
    else
      if (v 25) = 0 then
        ((-1), v, f, w, g)
      else
        if (v 38) = 30 then
          ((-1), v, f, w, g)
        else
          let f9 : Nat → Nat → Int32 := upd2 f 30 (upd (f 30) (v 38).toNatClampNeg p1)
          let f10 : Nat → Nat → Int32 := upd2 f9 33 (upd (f9 33) (v 38).toNatClampNeg (vp_nar .boolean p2))
          let f11 : Nat → Nat → Int32 := upd2 f10 31 (upd (f10 31) (v 38).toNatClampNeg (v 39))
          let f12 : Nat → Nat → Int32 := upd2 f11 32 (upd (f11 32) (v 38).toNatClampNeg (-1))
          let t13 : Int32 := (v 38) + 1
          let t15 : Int32 := t13 - 1
          (t15, (upd v 38 t13), f12, w, g)
  else
    ((-1), v, f, w, g)
theorem gsY_X11_seen_1_q0 {NF : Nat} {p1 : Int32} {p2 : Int32} {v : Nat → Int32} {f : Nat → Nat → Int32} {w : Int64} {g : Nat → Int64} (h0 : gsY_X11_isIn_1 NF p1 0 20 v f w g = 1) (h1 : ((v 24) = 0)) : gsY_X11_seen_1 NF p1 p2 v f w g = ((-1), v, f, w, g) := by
  simp only [gsY_X11_seen_1, h0, if_pos h1, ite11, ite01, if_true, if_false]
theorem gsY_X11_seen_1_q1 {NF : Nat} {p1 : Int32} {p2 : Int32} {v : Nat → Int32} {f : Nat → Nat → Int32} {w : Int64} {g : Nat → Int64} (h0 : gsY_X11_isIn_1 NF p1 0 20 v f w g = 1) (h1 : ¬ ((v 24) = 0)) (h2 : ((v 25) = 0)) : gsY_X11_seen_1 NF p1 p2 v f w g = ((-1), v, f, w, g) := by
  simp only [gsY_X11_seen_1, h0, if_neg h1, if_pos h2, ite11, ite01, if_true, if_false]
theorem gsY_X11_seen_1_q2 {NF : Nat} {p1 : Int32} {p2 : Int32} {v : Nat → Int32} {f : Nat → Nat → Int32} {w : Int64} {g : Nat → Int64} {f9 : Nat → Nat → Int32} {f10 : Nat → Nat → Int32} {f11 : Nat → Nat → Int32} {f12 : Nat → Nat → Int32} {t13 : Int32} {t15 : Int32} (h0 : gsY_X11_isIn_1 NF p1 0 20 v f w g = 1) (h1 : ¬ ((v 24) = 0)) (h2 : ¬ ((v 25) = 0)) (h3 : ¬ ((v 38) = 30)) (h4 : f9 = upd2 f 30 (upd (f 30) (v 38).toNatClampNeg p1)) (h5 : f10 = upd2 f9 33 (upd (f9 33) (v 38).toNatClampNeg (vp_nar .boolean p2))) (h6 : f11 = upd2 f10 31 (upd (f10 31) (v 38).toNatClampNeg (v 39))) (h7 : f12 = upd2 f11 32 (upd (f11 32) (v 38).toNatClampNeg (-1))) (h8 : t13 = (v 38) + 1) (h9 : t15 = t13 - 1) : gsY_X11_seen_1 NF p1 p2 v f w g = (t15, (upd v 38 t13), f12, w, g) := by
  subst h4 h5 h6 h7 h8 h9
  simp only [gsY_X11_seen_1, h0, if_neg h1, if_neg h2, if_neg h3, ite11, ite01, if_true, if_false]
theorem gsY_X11_seen_1_q3 {NF : Nat} {p1 : Int32} {p2 : Int32} {v : Nat → Int32} {f : Nat → Nat → Int32} {w : Int64} {g : Nat → Int64} (h0 : gsY_X11_isIn_1 NF p1 0 20 v f w g = 1) (h1 : ¬ ((v 24) = 0)) (h2 : ¬ ((v 25) = 0)) (h3 : ((v 38) = 30)) : gsY_X11_seen_1 NF p1 p2 v f w g = ((-1), v, f, w, g) := by
  simp only [gsY_X11_seen_1, h0, if_neg h1, if_neg h2, if_pos h3, ite11, ite01, if_true, if_false]
theorem gsY_X11_seen_1_q4 {NF : Nat} {p1 : Int32} {p2 : Int32} {v : Nat → Int32} {f : Nat → Nat → Int32} {w : Int64} {g : Nat → Int64} (h0 : gsY_X11_isIn_1 NF p1 0 20 v f w g = 0) : gsY_X11_seen_1 NF p1 p2 v f w g = ((-1), v, f, w, g) := by
  simp only [gsY_X11_seen_1, h0, ite11, ite01, if_true, if_false]
def gsY_X11_untell_1 (NF : Nat) (p1 : Int32) (v : Nat → Int32) (f : Nat → Nat → Int32) (w : Int64) (g : Nat → Int64) : Int32 × (Nat → Int32) × (Nat → Nat → Int32) × (Int64) × (Nat → Int64) :=
  let t1 : Int32 := (v 38) - 1
  if gsY_X11_isIn_1 NF p1 0 t1 v f w g = 1 then
    let t7 : Int32 := f 32 (p1).toNatClampNeg
    if t7 < 0 then
      let f9 : Nat → Nat → Int32 := upd2 f 32 (upd (f 32) p1.toNatClampNeg (v 39))
      (1, v, f9, w, g)
    else
      (0, v, f, w, g)
  else
    (0, v, f, w, g)
theorem gsY_X11_untell_1_q0 {NF : Nat} {p1 : Int32} {v : Nat → Int32} {f : Nat → Nat → Int32} {w : Int64} {g : Nat → Int64} {t1 : Int32} {t7 : Int32} {f9 : Nat → Nat → Int32} (h0 : t1 = (v 38) - 1) (h1 : gsY_X11_isIn_1 NF p1 0 t1 v f w g = 1) (h2 : t7 = f 32 (p1).toNatClampNeg) (h3 : (t7 < 0)) (h4 : f9 = upd2 f 32 (upd (f 32) p1.toNatClampNeg (v 39))) : gsY_X11_untell_1 NF p1 v f w g = (1, v, f9, w, g) := by
  subst h0 h2 h4
  simp only [gsY_X11_untell_1, h1, if_pos h3, ite11, ite01, if_true, if_false]
theorem gsY_X11_untell_1_q1 {NF : Nat} {p1 : Int32} {v : Nat → Int32} {f : Nat → Nat → Int32} {w : Int64} {g : Nat → Int64} {t1 : Int32} {t7 : Int32} (h0 : t1 = (v 38) - 1) (h1 : gsY_X11_isIn_1 NF p1 0 t1 v f w g = 1) (h2 : t7 = f 32 (p1).toNatClampNeg) (h3 : ¬ (t7 < 0)) : gsY_X11_untell_1 NF p1 v f w g = (0, v, f, w, g) := by
  subst h0 h2
  simp only [gsY_X11_untell_1, h1, if_neg h3, ite11, ite01, if_true, if_false]
theorem gsY_X11_untell_1_q2 {NF : Nat} {p1 : Int32} {v : Nat → Int32} {f : Nat → Nat → Int32} {w : Int64} {g : Nat → Int64} {t1 : Int32} (h0 : t1 = (v 38) - 1) (h1 : gsY_X11_isIn_1 NF p1 0 t1 v f w g = 0) : gsY_X11_untell_1 NF p1 v f w g = (0, v, f, w, g) := by
  subst h0
  simp only [gsY_X11_untell_1, h1, ite11, ite01, if_true, if_false]
def gsY_X11_later_1 (NF : Nat) (p1 : Int32) (v : Nat → Int32) (f : Nat → Nat → Int32) (w : Int64) (g : Nat → Int64) : Int32 × (Nat → Int32) × (Nat → Nat → Int32) × (Int64) × (Nat → Int64) :=
  if p1 < 0 then
    ((-1), v, f, w, g)
  else
    if 1000 < p1 then
      ((-1), v, f, w, g)
    else
      let t3 : Int32 := (v 39) + p1
      if t3 ≤ 100000 then
        (t3, (upd v 39 t3), f, w, g)
      else
        ((-1), v, f, w, g)
theorem gsY_X11_later_1_q0 {NF : Nat} {p1 : Int32} {v : Nat → Int32} {f : Nat → Nat → Int32} {w : Int64} {g : Nat → Int64} (h0 : (p1 < 0)) : gsY_X11_later_1 NF p1 v f w g = ((-1), v, f, w, g) := by
  simp only [gsY_X11_later_1, if_pos h0]
theorem gsY_X11_later_1_q1 {NF : Nat} {p1 : Int32} {v : Nat → Int32} {f : Nat → Nat → Int32} {w : Int64} {g : Nat → Int64} (h0 : ¬ (p1 < 0)) (h1 : (1000 < p1)) : gsY_X11_later_1 NF p1 v f w g = ((-1), v, f, w, g) := by
  simp only [gsY_X11_later_1, if_neg h0, if_pos h1]
theorem gsY_X11_later_1_q2 {NF : Nat} {p1 : Int32} {v : Nat → Int32} {f : Nat → Nat → Int32} {w : Int64} {g : Nat → Int64} {t3 : Int32} (h0 : ¬ (p1 < 0)) (h1 : ¬ (1000 < p1)) (h2 : t3 = (v 39) + p1) (h3 : (t3 ≤ 100000)) : gsY_X11_later_1 NF p1 v f w g = (t3, (upd v 39 t3), f, w, g) := by
  subst h2
  simp only [gsY_X11_later_1, if_neg h0, if_neg h1, if_pos h3]
theorem gsY_X11_later_1_q3 {NF : Nat} {p1 : Int32} {v : Nat → Int32} {f : Nat → Nat → Int32} {w : Int64} {g : Nat → Int64} {t3 : Int32} (h0 : ¬ (p1 < 0)) (h1 : ¬ (1000 < p1)) (h2 : t3 = (v 39) + p1) (h3 : ¬ (t3 ≤ 100000)) : gsY_X11_later_1 NF p1 v f w g = ((-1), v, f, w, g) := by
  subst h2
  simp only [gsY_X11_later_1, if_neg h0, if_neg h1, if_neg h3]
def gsY_X11_power_1_L1 (NF : Nat) (p0 : Int32) (p1 : Int32) : Nat → (Int32) → (Int32) → Int32
  | 0, _, _ => 0
  | n1 + 1, l2_1, l3_1 =>
    if p1 ≤ l3_1 then
      l2_1
    else
      let t7 : Int32 := l2_1 * p0
      let t8 : Int32 := l3_1 + 1
      gsY_X11_power_1_L1 NF p0 p1 n1 t7 t8
def gsY_X11_power_1 (NF : Nat) (p0 : Int32) (p1 : Int32) (v : Nat → Int32) (f : Nat → Nat → Int32) (w : Int64) (g : Nat → Int64) : Int32 :=
  gsY_X11_power_1_L1 NF p0 p1 (4294967296 + NF) 1 0
theorem gsY_X11_power_1_q2 {NF : Nat} {p0 : Int32} {p1 : Int32} {v : Nat → Int32} {f : Nat → Nat → Int32} {w : Int64} {g : Nat → Int64}  : gsY_X11_power_1 NF p0 p1 v f w g = gsY_X11_power_1_L1 NF p0 p1 (4294967296 + NF) 1 0 := by
  simp only [gsY_X11_power_1]
theorem gsY_X11_power_1_q0 {NF : Nat} {p0 : Int32} {p1 : Int32} {n1 : Nat} {l2_1 : Int32} {l3_1 : Int32} (h0 : (p1 ≤ l3_1)) : gsY_X11_power_1_L1 NF p0 p1 (n1 + 1) l2_1 l3_1 = l2_1 := by
  simp only [gsY_X11_power_1_L1, if_pos h0]
theorem gsY_X11_power_1_q1 {NF : Nat} {p0 : Int32} {p1 : Int32} {n1 : Nat} {l2_1 : Int32} {l3_1 : Int32} {t7 : Int32} {t8 : Int32} (h0 : ¬ (p1 ≤ l3_1)) (h1 : t7 = l2_1 * p0) (h2 : t8 = l3_1 + 1) : gsY_X11_power_1_L1 NF p0 p1 (n1 + 1) l2_1 l3_1 = gsY_X11_power_1_L1 NF p0 p1 n1 t7 t8 := by
  subst h1 h2
  simp only [gsY_X11_power_1_L1, if_neg h0]
def gsY_X11_power_2 (NF : Nat) (v : Nat → Int32) (f : Nat → Nat → Int32) (w : Int64) (g : Nat → Int64) : Int32 :=
  1
theorem gsY_X11_power_2_q0 {NF : Nat} {v : Nat → Int32} {f : Nat → Nat → Int32} {w : Int64} {g : Nat → Int64}  : gsY_X11_power_2 NF v f w g = 1 := by
  simp only [gsY_X11_power_2]
def gsY_X11_divisor_1_L1 (NF : Nat) : Nat → (Int32) → (Int32) → Int32
  | 0, _, _ => 0
  | n1 + 1, l2_1, l3_1 =>
    if l3_1 ≤ 0 then
      l2_1
    else
      let t3 : Int32 := l2_1 - l2_1 / l3_1 * l3_1
      gsY_X11_divisor_1_L1 NF n1 l3_1 t3
def gsY_X11_divisor_1 (NF : Nat) (p0 : Int32) (p1 : Int32) (v : Nat → Int32) (f : Nat → Nat → Int32) (w : Int64) (g : Nat → Int64) : Int32 :=
  gsY_X11_divisor_1_L1 NF (4294967296 + NF) p0 p1
theorem gsY_X11_divisor_1_q2 {NF : Nat} {p0 : Int32} {p1 : Int32} {v : Nat → Int32} {f : Nat → Nat → Int32} {w : Int64} {g : Nat → Int64}  : gsY_X11_divisor_1 NF p0 p1 v f w g = gsY_X11_divisor_1_L1 NF (4294967296 + NF) p0 p1 := by
  simp only [gsY_X11_divisor_1]
theorem gsY_X11_divisor_1_q0 {NF : Nat} {n1 : Nat} {l2_1 : Int32} {l3_1 : Int32} (h0 : (l3_1 ≤ 0)) : gsY_X11_divisor_1_L1 NF (n1 + 1) l2_1 l3_1 = l2_1 := by
  simp only [gsY_X11_divisor_1_L1, if_pos h0]
theorem gsY_X11_divisor_1_q1 {NF : Nat} {n1 : Nat} {l2_1 : Int32} {l3_1 : Int32} {t3 : Int32} (h0 : ¬ (l3_1 ≤ 0)) (h1 : t3 = l2_1 - l2_1 / l3_1 * l3_1) : gsY_X11_divisor_1_L1 NF (n1 + 1) l2_1 l3_1 = gsY_X11_divisor_1_L1 NF n1 l3_1 t3 := by
  subst h1
  simp only [gsY_X11_divisor_1_L1, if_neg h0]
def gsY_X11_power_3 (NF : Nat) (v : Nat → Int32) (f : Nat → Nat → Int32) (w : Int64) (g : Nat → Int64) : Int32 :=
  100
theorem gsY_X11_power_3_q0 {NF : Nat} {v : Nat → Int32} {f : Nat → Nat → Int32} {w : Int64} {g : Nat → Int64}  : gsY_X11_power_3 NF v f w g = 100 := by
  simp only [gsY_X11_power_3]
def gsY_X11_power_4 (NF : Nat) (v : Nat → Int32) (f : Nat → Nat → Int32) (w : Int64) (g : Nat → Int64) : Int32 :=
  10000
theorem gsY_X11_power_4_q0 {NF : Nat} {v : Nat → Int32} {f : Nat → Nat → Int32} {w : Int64} {g : Nat → Int64}  : gsY_X11_power_4 NF v f w g = 10000 := by
  simp only [gsY_X11_power_4]
def gsY_X11_power_5 (NF : Nat) (v : Nat → Int32) (f : Nat → Nat → Int32) (w : Int64) (g : Nat → Int64) : Int32 :=
  1000000
theorem gsY_X11_power_5_q0 {NF : Nat} {v : Nat → Int32} {f : Nat → Nat → Int32} {w : Int64} {g : Nat → Int64}  : gsY_X11_power_5 NF v f w g = 1000000 := by
  simp only [gsY_X11_power_5]
def gsY_X11_power_6 (NF : Nat) (v : Nat → Int32) (f : Nat → Nat → Int32) (w : Int64) (g : Nat → Int64) : Int32 :=
  100000000
theorem gsY_X11_power_6_q0 {NF : Nat} {v : Nat → Int32} {f : Nat → Nat → Int32} {w : Int64} {g : Nat → Int64}  : gsY_X11_power_6 NF v f w g = 100000000 := by
  simp only [gsY_X11_power_6]
def gsY_X11_odds_1 (NF : Nat) (p1 : Int32) (p2 : Int32) (v : Nat → Int32) (f : Nat → Nat → Int32) (w : Int64) (g : Nat → Int64) : Int32 :=
  if gsY_X11_isIn_1 NF p1 0 4 v f w g = 1 then
    if gsY_X11_isIn_1 NF p2 0 1 v f w g = 1 then
      let t10 : Int32 := 100 - (v 29)
      let r11 : Int32 := gsY_X11_power_1 NF t10 p1 v f w g
      if p1 = 0 then
        let r14 : Int32 := gsY_X11_power_2 NF v f w g
        let r16 : Int32 := gsY_X11_divisor_1 NF r14 r11 v f w g
        if p2 = 0 then
          let t20 : Int32 := r11 / r16
          t20
        else
          let t19 : Int32 := r14 / r16
          t19
      else
        if p1 = 1 then
          let r22 : Int32 := gsY_X11_power_3 NF v f w g
          let r24 : Int32 := gsY_X11_divisor_1 NF r22 r11 v f w g
          if p2 = 0 then
            let t28 : Int32 := r11 / r24
            t28
          else
            let t27 : Int32 := r22 / r24
            t27
        else
          if p1 = 2 then
            let r30 : Int32 := gsY_X11_power_4 NF v f w g
            let r32 : Int32 := gsY_X11_divisor_1 NF r30 r11 v f w g
            if p2 = 0 then
              let t36 : Int32 := r11 / r32
              t36
            else
              let t35 : Int32 := r30 / r32
              t35
          else
            if p1 = 3 then
              let r38 : Int32 := gsY_X11_power_5 NF v f w g
              let r40 : Int32 := gsY_X11_divisor_1 NF r38 r11 v f w g
              if p2 = 0 then
                let t44 : Int32 := r11 / r40
                t44
              else
                let t43 : Int32 := r38 / r40
                t43
            else
              if p1 = 4 then
                let r46 : Int32 := gsY_X11_power_6 NF v f w g
                let r48 : Int32 := gsY_X11_divisor_1 NF r46 r11 v f w g
                if p2 = 0 then
                  let t52 : Int32 := r11 / r48
                  t52
                else
                  let t51 : Int32 := r46 / r48
                  t51
              else
                0
    else
      (-1)
  else
    (-1)
theorem gsY_X11_odds_1_q0 {NF : Nat} {p1 : Int32} {p2 : Int32} {v : Nat → Int32} {f : Nat → Nat → Int32} {w : Int64} {g : Nat → Int64} {t10 : Int32} {r11 : Int32} {r14 : Int32} {r16 : Int32} {t19 : Int32} (h0 : gsY_X11_isIn_1 NF p1 0 4 v f w g = 1) (h1 : gsY_X11_isIn_1 NF p2 0 1 v f w g = 1) (h2 : t10 = 100 - (v 29)) (h3 : r11 = gsY_X11_power_1 NF t10 p1 v f w g) (h4 : (p1 = 0)) (h5 : r14 = gsY_X11_power_2 NF v f w g) (h6 : r16 = gsY_X11_divisor_1 NF r14 r11 v f w g) (h7 : ¬ (p2 = 0)) (h8 : t19 = r14 / r16) : gsY_X11_odds_1 NF p1 p2 v f w g = t19 := by
  subst h2 h3 h5 h6 h8
  simp only [gsY_X11_odds_1, h0, h1, if_pos h4, if_neg h7, ite11, ite01, if_true, if_false]
theorem gsY_X11_odds_1_q1 {NF : Nat} {p1 : Int32} {p2 : Int32} {v : Nat → Int32} {f : Nat → Nat → Int32} {w : Int64} {g : Nat → Int64} {t10 : Int32} {r11 : Int32} {r14 : Int32} {r16 : Int32} {t20 : Int32} (h0 : gsY_X11_isIn_1 NF p1 0 4 v f w g = 1) (h1 : gsY_X11_isIn_1 NF p2 0 1 v f w g = 1) (h2 : t10 = 100 - (v 29)) (h3 : r11 = gsY_X11_power_1 NF t10 p1 v f w g) (h4 : (p1 = 0)) (h5 : r14 = gsY_X11_power_2 NF v f w g) (h6 : r16 = gsY_X11_divisor_1 NF r14 r11 v f w g) (h7 : (p2 = 0)) (h8 : t20 = r11 / r16) : gsY_X11_odds_1 NF p1 p2 v f w g = t20 := by
  subst h2 h3 h5 h6 h8
  simp only [gsY_X11_odds_1, h0, h1, if_pos h4, if_pos h7, ite11, ite01, if_true, if_false]
theorem gsY_X11_odds_1_q2 {NF : Nat} {p1 : Int32} {p2 : Int32} {v : Nat → Int32} {f : Nat → Nat → Int32} {w : Int64} {g : Nat → Int64} {t10 : Int32} {r11 : Int32} {r22 : Int32} {r24 : Int32} {t27 : Int32} (h0 : gsY_X11_isIn_1 NF p1 0 4 v f w g = 1) (h1 : gsY_X11_isIn_1 NF p2 0 1 v f w g = 1) (h2 : t10 = 100 - (v 29)) (h3 : r11 = gsY_X11_power_1 NF t10 p1 v f w g) (h4 : ¬ (p1 = 0)) (h5 : (p1 = 1)) (h6 : r22 = gsY_X11_power_3 NF v f w g) (h7 : r24 = gsY_X11_divisor_1 NF r22 r11 v f w g) (h8 : ¬ (p2 = 0)) (h9 : t27 = r22 / r24) : gsY_X11_odds_1 NF p1 p2 v f w g = t27 := by
  subst h2 h3 h6 h7 h9
  simp only [gsY_X11_odds_1, h0, h1, if_neg h4, if_pos h5, if_neg h8, ite11, ite01, if_true, if_false]
theorem gsY_X11_odds_1_q3 {NF : Nat} {p1 : Int32} {p2 : Int32} {v : Nat → Int32} {f : Nat → Nat → Int32} {w : Int64} {g : Nat → Int64} {t10 : Int32} {r11 : Int32} {r22 : Int32} {r24 : Int32} {t28 : Int32} (h0 : gsY_X11_isIn_1 NF p1 0 4 v f w g = 1) (h1 : gsY_X11_isIn_1 NF p2 0 1 v f w g = 1) (h2 : t10 = 100 - (v 29)) (h3 : r11 = gsY_X11_power_1 NF t10 p1 v f w g) (h4 : ¬ (p1 = 0)) (h5 : (p1 = 1)) (h6 : r22 = gsY_X11_power_3 NF v f w g) (h7 : r24 = gsY_X11_divisor_1 NF r22 r11 v f w g) (h8 : (p2 = 0)) (h9 : t28 = r11 / r24) : gsY_X11_odds_1 NF p1 p2 v f w g = t28 := by
  subst h2 h3 h6 h7 h9
  simp only [gsY_X11_odds_1, h0, h1, if_neg h4, if_pos h5, if_pos h8, ite11, ite01, if_true, if_false]
theorem gsY_X11_odds_1_q4 {NF : Nat} {p1 : Int32} {p2 : Int32} {v : Nat → Int32} {f : Nat → Nat → Int32} {w : Int64} {g : Nat → Int64} {t10 : Int32} {r11 : Int32} {r30 : Int32} {r32 : Int32} {t35 : Int32} (h0 : gsY_X11_isIn_1 NF p1 0 4 v f w g = 1) (h1 : gsY_X11_isIn_1 NF p2 0 1 v f w g = 1) (h2 : t10 = 100 - (v 29)) (h3 : r11 = gsY_X11_power_1 NF t10 p1 v f w g) (h4 : ¬ (p1 = 0)) (h5 : ¬ (p1 = 1)) (h6 : (p1 = 2)) (h7 : r30 = gsY_X11_power_4 NF v f w g) (h8 : r32 = gsY_X11_divisor_1 NF r30 r11 v f w g) (h9 : ¬ (p2 = 0)) (h10 : t35 = r30 / r32) : gsY_X11_odds_1 NF p1 p2 v f w g = t35 := by
  subst h2 h3 h7 h8 h10
  simp only [gsY_X11_odds_1, h0, h1, if_neg h4, if_neg h5, if_pos h6, if_neg h9, ite11, ite01, if_true, if_false]
theorem gsY_X11_odds_1_q5 {NF : Nat} {p1 : Int32} {p2 : Int32} {v : Nat → Int32} {f : Nat → Nat → Int32} {w : Int64} {g : Nat → Int64} {t10 : Int32} {r11 : Int32} {r30 : Int32} {r32 : Int32} {t36 : Int32} (h0 : gsY_X11_isIn_1 NF p1 0 4 v f w g = 1) (h1 : gsY_X11_isIn_1 NF p2 0 1 v f w g = 1) (h2 : t10 = 100 - (v 29)) (h3 : r11 = gsY_X11_power_1 NF t10 p1 v f w g) (h4 : ¬ (p1 = 0)) (h5 : ¬ (p1 = 1)) (h6 : (p1 = 2)) (h7 : r30 = gsY_X11_power_4 NF v f w g) (h8 : r32 = gsY_X11_divisor_1 NF r30 r11 v f w g) (h9 : (p2 = 0)) (h10 : t36 = r11 / r32) : gsY_X11_odds_1 NF p1 p2 v f w g = t36 := by
  subst h2 h3 h7 h8 h10
  simp only [gsY_X11_odds_1, h0, h1, if_neg h4, if_neg h5, if_pos h6, if_pos h9, ite11, ite01, if_true, if_false]
theorem gsY_X11_odds_1_q6 {NF : Nat} {p1 : Int32} {p2 : Int32} {v : Nat → Int32} {f : Nat → Nat → Int32} {w : Int64} {g : Nat → Int64} {t10 : Int32} {r11 : Int32} {r38 : Int32} {r40 : Int32} {t43 : Int32} (h0 : gsY_X11_isIn_1 NF p1 0 4 v f w g = 1) (h1 : gsY_X11_isIn_1 NF p2 0 1 v f w g = 1) (h2 : t10 = 100 - (v 29)) (h3 : r11 = gsY_X11_power_1 NF t10 p1 v f w g) (h4 : ¬ (p1 = 0)) (h5 : ¬ (p1 = 1)) (h6 : ¬ (p1 = 2)) (h7 : (p1 = 3)) (h8 : r38 = gsY_X11_power_5 NF v f w g) (h9 : r40 = gsY_X11_divisor_1 NF r38 r11 v f w g) (h10 : ¬ (p2 = 0)) (h11 : t43 = r38 / r40) : gsY_X11_odds_1 NF p1 p2 v f w g = t43 := by
  subst h2 h3 h8 h9 h11
  simp only [gsY_X11_odds_1, h0, h1, if_neg h4, if_neg h5, if_neg h6, if_pos h7, if_neg h10, ite11, ite01, if_true, if_false]
theorem gsY_X11_odds_1_q7 {NF : Nat} {p1 : Int32} {p2 : Int32} {v : Nat → Int32} {f : Nat → Nat → Int32} {w : Int64} {g : Nat → Int64} {t10 : Int32} {r11 : Int32} {r38 : Int32} {r40 : Int32} {t44 : Int32} (h0 : gsY_X11_isIn_1 NF p1 0 4 v f w g = 1) (h1 : gsY_X11_isIn_1 NF p2 0 1 v f w g = 1) (h2 : t10 = 100 - (v 29)) (h3 : r11 = gsY_X11_power_1 NF t10 p1 v f w g) (h4 : ¬ (p1 = 0)) (h5 : ¬ (p1 = 1)) (h6 : ¬ (p1 = 2)) (h7 : (p1 = 3)) (h8 : r38 = gsY_X11_power_5 NF v f w g) (h9 : r40 = gsY_X11_divisor_1 NF r38 r11 v f w g) (h10 : (p2 = 0)) (h11 : t44 = r11 / r40) : gsY_X11_odds_1 NF p1 p2 v f w g = t44 := by
  subst h2 h3 h8 h9 h11
  simp only [gsY_X11_odds_1, h0, h1, if_neg h4, if_neg h5, if_neg h6, if_pos h7, if_pos h10, ite11, ite01, if_true, if_false]
theorem gsY_X11_odds_1_q8 {NF : Nat} {p1 : Int32} {p2 : Int32} {v : Nat → Int32} {f : Nat → Nat → Int32} {w : Int64} {g : Nat → Int64} {t10 : Int32} {r11 : Int32} {r46 : Int32} {r48 : Int32} {t51 : Int32} (h0 : gsY_X11_isIn_1 NF p1 0 4 v f w g = 1) (h1 : gsY_X11_isIn_1 NF p2 0 1 v f w g = 1) (h2 : t10 = 100 - (v 29)) (h3 : r11 = gsY_X11_power_1 NF t10 p1 v f w g) (h4 : ¬ (p1 = 0)) (h5 : ¬ (p1 = 1)) (h6 : ¬ (p1 = 2)) (h7 : ¬ (p1 = 3)) (h8 : (p1 = 4)) (h9 : r46 = gsY_X11_power_6 NF v f w g) (h10 : r48 = gsY_X11_divisor_1 NF r46 r11 v f w g) (h11 : ¬ (p2 = 0)) (h12 : t51 = r46 / r48) : gsY_X11_odds_1 NF p1 p2 v f w g = t51 := by
  subst h2 h3 h9 h10 h12
  simp only [gsY_X11_odds_1, h0, h1, if_neg h4, if_neg h5, if_neg h6, if_neg h7, if_pos h8, if_neg h11, ite11, ite01, if_true, if_false]
theorem gsY_X11_odds_1_q9 {NF : Nat} {p1 : Int32} {p2 : Int32} {v : Nat → Int32} {f : Nat → Nat → Int32} {w : Int64} {g : Nat → Int64} {t10 : Int32} {r11 : Int32} {r46 : Int32} {r48 : Int32} {t52 : Int32} (h0 : gsY_X11_isIn_1 NF p1 0 4 v f w g = 1) (h1 : gsY_X11_isIn_1 NF p2 0 1 v f w g = 1) (h2 : t10 = 100 - (v 29)) (h3 : r11 = gsY_X11_power_1 NF t10 p1 v f w g) (h4 : ¬ (p1 = 0)) (h5 : ¬ (p1 = 1)) (h6 : ¬ (p1 = 2)) (h7 : ¬ (p1 = 3)) (h8 : (p1 = 4)) (h9 : r46 = gsY_X11_power_6 NF v f w g) (h10 : r48 = gsY_X11_divisor_1 NF r46 r11 v f w g) (h11 : (p2 = 0)) (h12 : t52 = r11 / r48) : gsY_X11_odds_1 NF p1 p2 v f w g = t52 := by
  subst h2 h3 h9 h10 h12
  simp only [gsY_X11_odds_1, h0, h1, if_neg h4, if_neg h5, if_neg h6, if_neg h7, if_pos h8, if_pos h11, ite11, ite01, if_true, if_false]
theorem gsY_X11_odds_1_q10 {NF : Nat} {p1 : Int32} {p2 : Int32} {v : Nat → Int32} {f : Nat → Nat → Int32} {w : Int64} {g : Nat → Int64} (h0 : gsY_X11_isIn_1 NF p1 0 4 v f w g = 1) (h1 : gsY_X11_isIn_1 NF p2 0 1 v f w g = 0) : gsY_X11_odds_1 NF p1 p2 v f w g = (-1) := by
  simp only [gsY_X11_odds_1, h0, h1, ite11, ite01, if_true, if_false]
theorem gsY_X11_odds_1_q11 {NF : Nat} {p1 : Int32} {p2 : Int32} {v : Nat → Int32} {f : Nat → Nat → Int32} {w : Int64} {g : Nat → Int64} (h0 : gsY_X11_isIn_1 NF p1 0 4 v f w g = 0) : gsY_X11_odds_1 NF p1 p2 v f w g = (-1) := by
  simp only [gsY_X11_odds_1, h0, ite11, ite01, if_true, if_false]
def gsY_X11_fill_1_L1 (NF : Nat) : Nat → (Int32) → (Nat → Int32) → (Nat → Nat → Int32) → (Int64) → (Nat → Int64) → (Nat → Int32) × (Nat → Nat → Int32) × (Int64) × (Nat → Int64)
  | 0, _, _, _, _, _ => ((fun _ => 0), (fun _ _ => 0), 0, (fun _ => 0))
  | n1 + 1, l1_1, v1, f1, w1, g1 =>
    if 39 ≤ l1_1 then
      (v1, f1, w1, g1)
    else
      let t3 : Int32 := f1 23 (l1_1).toNatClampNeg
      let f4 : Nat → Nat → Int32 := upd2 f1 24 (upd (f1 24) l1_1.toNatClampNeg t3)
      let t5 : Int32 := l1_1 + 1
      gsY_X11_fill_1_L1 NF n1 t5 v1 f4 w1 g1
def gsY_X11_fill_1 (NF : Nat) (v : Nat → Int32) (f : Nat → Nat → Int32) (w : Int64) (g : Nat → Int64) : (Nat → Int32) × (Nat → Nat → Int32) × (Int64) × (Nat → Int64) :=
  gsY_X11_fill_1_L1 NF (4294967296 + NF) 0 v f w g
theorem gsY_X11_fill_1_q2 {NF : Nat} {v : Nat → Int32} {f : Nat → Nat → Int32} {w : Int64} {g : Nat → Int64}  : gsY_X11_fill_1 NF v f w g = gsY_X11_fill_1_L1 NF (4294967296 + NF) 0 v f w g := by
  simp only [gsY_X11_fill_1]
theorem gsY_X11_fill_1_q0 {NF : Nat} {n1 : Nat} {l1_1 : Int32} {v1 : Nat → Int32} {f1 : Nat → Nat → Int32} {w1 : Int64} {g1 : Nat → Int64} (h0 : (39 ≤ l1_1)) : gsY_X11_fill_1_L1 NF (n1 + 1) l1_1 v1 f1 w1 g1 = (v1, f1, w1, g1) := by
  simp only [gsY_X11_fill_1_L1, if_pos h0]
theorem gsY_X11_fill_1_q1 {NF : Nat} {n1 : Nat} {l1_1 : Int32} {v1 : Nat → Int32} {f1 : Nat → Nat → Int32} {w1 : Int64} {g1 : Nat → Int64} {t3 : Int32} {f4 : Nat → Nat → Int32} {t5 : Int32} (h0 : ¬ (39 ≤ l1_1)) (h1 : t3 = f1 23 (l1_1).toNatClampNeg) (h2 : f4 = upd2 f1 24 (upd (f1 24) l1_1.toNatClampNeg t3)) (h3 : t5 = l1_1 + 1) : gsY_X11_fill_1_L1 NF (n1 + 1) l1_1 v1 f1 w1 g1 = gsY_X11_fill_1_L1 NF n1 t5 v1 f4 w1 g1 := by
  subst h1 h2 h3
  simp only [gsY_X11_fill_1_L1, if_neg h0]
def gsY_X11_isMan_1 (NF : Nat) (p1 : Int32) (v : Nat → Int32) (f : Nat → Nat → Int32) (w : Int64) (g : Nat → Int64) : Int32 :=
  let t1 : Int32 := (v 24) - 1
  if gsY_X11_isIn_1 NF p1 0 t1 v f w g = 1 then
    1
  else
    0
theorem gsY_X11_isMan_1_q0 {NF : Nat} {p1 : Int32} {v : Nat → Int32} {f : Nat → Nat → Int32} {w : Int64} {g : Nat → Int64} {t1 : Int32} (h0 : t1 = (v 24) - 1) (h1 : gsY_X11_isIn_1 NF p1 0 t1 v f w g = 1) : gsY_X11_isMan_1 NF p1 v f w g = 1 := by
  subst h0
  simp only [gsY_X11_isMan_1, h1, ite11, ite01, if_true, if_false]
theorem gsY_X11_isMan_1_q1 {NF : Nat} {p1 : Int32} {v : Nat → Int32} {f : Nat → Nat → Int32} {w : Int64} {g : Nat → Int64} {t1 : Int32} (h0 : t1 = (v 24) - 1) (h1 : gsY_X11_isIn_1 NF p1 0 t1 v f w g = 0) : gsY_X11_isMan_1 NF p1 v f w g = 0 := by
  subst h0
  simp only [gsY_X11_isMan_1, h1, ite11, ite01, if_true, if_false]
def gsY_X11_isCoat_1 (NF : Nat) (p1 : Int32) (v : Nat → Int32) (f : Nat → Nat → Int32) (w : Int64) (g : Nat → Int64) : Int32 :=
  let t1 : Int32 := (v 25) - 1
  if gsY_X11_isIn_1 NF p1 0 t1 v f w g = 1 then
    1
  else
    0
theorem gsY_X11_isCoat_1_q0 {NF : Nat} {p1 : Int32} {v : Nat → Int32} {f : Nat → Nat → Int32} {w : Int64} {g : Nat → Int64} {t1 : Int32} (h0 : t1 = (v 25) - 1) (h1 : gsY_X11_isIn_1 NF p1 0 t1 v f w g = 1) : gsY_X11_isCoat_1 NF p1 v f w g = 1 := by
  subst h0
  simp only [gsY_X11_isCoat_1, h1, ite11, ite01, if_true, if_false]
theorem gsY_X11_isCoat_1_q1 {NF : Nat} {p1 : Int32} {v : Nat → Int32} {f : Nat → Nat → Int32} {w : Int64} {g : Nat → Int64} {t1 : Int32} (h0 : t1 = (v 25) - 1) (h1 : gsY_X11_isIn_1 NF p1 0 t1 v f w g = 0) : gsY_X11_isCoat_1 NF p1 v f w g = 0 := by
  subst h0
  simp only [gsY_X11_isCoat_1, h1, ite11, ite01, if_true, if_false]
def gsY_X11_over_1 (NF : Nat) (p0 : Int32) (p1 : Int32) (v : Nat → Int32) (f : Nat → Nat → Int32) (w : Int64) (g : Nat → Int64) : Int32 :=
  if p0 ≤ p1 then
    0
  else
    let t6 : Int32 := p0 - p1
    t6
theorem gsY_X11_over_1_q0 {NF : Nat} {p0 : Int32} {p1 : Int32} {v : Nat → Int32} {f : Nat → Nat → Int32} {w : Int64} {g : Nat → Int64} (h0 : (p0 ≤ p1)) : gsY_X11_over_1 NF p0 p1 v f w g = 0 := by
  simp only [gsY_X11_over_1, if_pos h0]
theorem gsY_X11_over_1_q1 {NF : Nat} {p0 : Int32} {p1 : Int32} {v : Nat → Int32} {f : Nat → Nat → Int32} {w : Int64} {g : Nat → Int64} {t6 : Int32} (h0 : ¬ (p0 ≤ p1)) (h1 : t6 = p0 - p1) : gsY_X11_over_1 NF p0 p1 v f w g = t6 := by
  subst h1
  simp only [gsY_X11_over_1, if_neg h0]
def gsY_X11_within_1 (NF : Nat) (p0 : Int32) (p1 : Int32) (v : Nat → Int32) (f : Nat → Nat → Int32) (w : Int64) (g : Nat → Int64) : Int32 :=
  if 0 ≤ p0 then
    if p0 ≤ p1 then
      p0
    else
      p1
  else
    0
theorem gsY_X11_within_1_q0 {NF : Nat} {p0 : Int32} {p1 : Int32} {v : Nat → Int32} {f : Nat → Nat → Int32} {w : Int64} {g : Nat → Int64} (h0 : (0 ≤ p0)) (h1 : (p0 ≤ p1)) : gsY_X11_within_1 NF p0 p1 v f w g = p0 := by
  simp only [gsY_X11_within_1, if_pos h0, if_pos h1]
theorem gsY_X11_within_1_q1 {NF : Nat} {p0 : Int32} {p1 : Int32} {v : Nat → Int32} {f : Nat → Nat → Int32} {w : Int64} {g : Nat → Int64} (h0 : (0 ≤ p0)) (h1 : ¬ (p0 ≤ p1)) : gsY_X11_within_1 NF p0 p1 v f w g = p1 := by
  simp only [gsY_X11_within_1, if_pos h0, if_neg h1]
theorem gsY_X11_within_1_q2 {NF : Nat} {p0 : Int32} {p1 : Int32} {v : Nat → Int32} {f : Nat → Nat → Int32} {w : Int64} {g : Nat → Int64} (h0 : ¬ (0 ≤ p0)) : gsY_X11_within_1 NF p0 p1 v f w g = 0 := by
  simp only [gsY_X11_within_1, if_neg h0]
def gsY_X11_truth_1 (NF : Nat) (p0 : Int32) (v : Nat → Int32) (f : Nat → Nat → Int32) (w : Int64) (g : Nat → Int64) : Int32 :=
  if p0 = 0 then
    0
  else
    1
theorem gsY_X11_truth_1_q0 {NF : Nat} {p0 : Int32} {v : Nat → Int32} {f : Nat → Nat → Int32} {w : Int64} {g : Nat → Int64} (h0 : (p0 = 0)) : gsY_X11_truth_1 NF p0 v f w g = 0 := by
  simp only [gsY_X11_truth_1, if_pos h0]
theorem gsY_X11_truth_1_q1 {NF : Nat} {p0 : Int32} {v : Nat → Int32} {f : Nat → Nat → Int32} {w : Int64} {g : Nat → Int64} (h0 : ¬ (p0 = 0)) : gsY_X11_truth_1 NF p0 v f w g = 1 := by
  simp only [gsY_X11_truth_1, if_neg h0]
def gsY_X11_done_1 (NF : Nat) (p0 : Int32) (p1 : Int32) (p2 : Int32) (v : Nat → Int32) (f : Nat → Nat → Int32) (w : Int64) (g : Nat → Int64) : Int32 :=
  if p0 = 37 then
    if p2 = 0 then
      0
    else
      let t3 : Int32 := p1 - p1 / p2 * p2
      t3
  else
    if p0 = 38 then
      if p1 = 0 then
        let r7 : Int32 := gsY_X11_truth_1 NF 0 v f w g
        r7
      else
        if p2 = 0 then
          let r11 : Int32 := gsY_X11_truth_1 NF 0 v f w g
          r11
        else
          let r14 : Int32 := gsY_X11_truth_1 NF 1 v f w g
          r14
    else
      if p0 = 39 then
        if p1 = 0 then
          if p2 = 0 then
            let r23 : Int32 := gsY_X11_truth_1 NF 0 v f w g
            r23
          else
            let r26 : Int32 := gsY_X11_truth_1 NF 1 v f w g
            r26
        else
          let r19 : Int32 := gsY_X11_truth_1 NF 1 v f w g
          r19
      else
        if p0 = 40 then
          if p1 = 0 then
            if p2 = 0 then
              let r35 : Int32 := gsY_X11_truth_1 NF 0 v f w g
              r35
            else
              let r38 : Int32 := gsY_X11_truth_1 NF 1 v f w g
              r38
          else
            let r31 : Int32 := gsY_X11_truth_1 NF 1 v f w g
            r31
        else
          if p0 = 41 then
            if p1 = 0 then
              if p2 = 0 then
                let r47 : Int32 := gsY_X11_truth_1 NF 0 v f w g
                r47
              else
                let r50 : Int32 := gsY_X11_truth_1 NF 1 v f w g
                r50
            else
              let r43 : Int32 := gsY_X11_truth_1 NF 1 v f w g
              r43
          else
            if p0 = 42 then
              let t53 : Int32 := p1 * p2
              t53
            else
              if p0 = 43 then
                let t55 : Int32 := p1 + p2
                t55
              else
                if p0 = 44 then
                  if p1 = 0 then
                    if p2 = 0 then
                      let r63 : Int32 := gsY_X11_truth_1 NF 0 v f w g
                      r63
                    else
                      let r66 : Int32 := gsY_X11_truth_1 NF 1 v f w g
                      r66
                  else
                    let r59 : Int32 := gsY_X11_truth_1 NF 1 v f w g
                    r59
                else
                  if p0 = 45 then
                    let t69 : Int32 := p1 - p2
                    t69
                  else
                    if p0 = 46 then
                      if p1 = 0 then
                        if p2 = 0 then
                          let r77 : Int32 := gsY_X11_truth_1 NF 0 v f w g
                          r77
                        else
                          let r80 : Int32 := gsY_X11_truth_1 NF 1 v f w g
                          r80
                      else
                        let r73 : Int32 := gsY_X11_truth_1 NF 1 v f w g
                        r73
                    else
                      if p0 = 47 then
                        if p2 = 0 then
                          0
                        else
                          let t84 : Int32 := p1 / p2
                          t84
                      else
                        if p0 = 48 then
                          if p1 = 0 then
                            if p2 = 0 then
                              let r92 : Int32 := gsY_X11_truth_1 NF 0 v f w g
                              r92
                            else
                              let r95 : Int32 := gsY_X11_truth_1 NF 1 v f w g
                              r95
                          else
                            let r88 : Int32 := gsY_X11_truth_1 NF 1 v f w g
                            r88
                        else
                          if p0 = 49 then
                            if p1 = 0 then
                              if p2 = 0 then
                                let r104 : Int32 := gsY_X11_truth_1 NF 0 v f w g
                                r104
                              else
                                let r107 : Int32 := gsY_X11_truth_1 NF 1 v f w g
                                r107
                            else
                              let r100 : Int32 := gsY_X11_truth_1 NF 1 v f w g
                              r100
                          else
                            if p0 = 50 then
                              if p1 = 0 then
                                if p2 = 0 then
                                  let r116 : Int32 := gsY_X11_truth_1 NF 0 v f w g
                                  r116
                                else
                                  let r119 : Int32 := gsY_X11_truth_1 NF 1 v f w g
                                  r119
                              else
                                let r112 : Int32 := gsY_X11_truth_1 NF 1 v f w g
                                r112
                            else
                              if p0 = 51 then
                                if p1 = 0 then
                                  if p2 = 0 then
                                    let r128 : Int32 := gsY_X11_truth_1 NF 0 v f w g
                                    r128
                                  else
                                    let r131 : Int32 := gsY_X11_truth_1 NF 1 v f w g
                                    r131
                                else
                                  let r124 : Int32 := gsY_X11_truth_1 NF 1 v f w g
                                  r124
                              else
                                if p0 = 52 then
                                  if p1 = 0 then
                                    if p2 = 0 then
                                      let r140 : Int32 := gsY_X11_truth_1 NF 0 v f w g
                                      r140
                                    else
                                      let r143 : Int32 := gsY_X11_truth_1 NF 1 v f w g
                                      r143
                                  else
                                    let r136 : Int32 := gsY_X11_truth_1 NF 1 v f w g
                                    r136
                                else
                                  if p0 = 53 then
                                    if p1 = 0 then
                                      if p2 = 0 then
                                        let r152 : Int32 := gsY_X11_truth_1 NF 0 v f w g
                                        r152
                                      else
                                        let r155 : Int32 := gsY_X11_truth_1 NF 1 v f w g
                                        r155
                                    else
                                      let r148 : Int32 := gsY_X11_truth_1 NF 1 v f w g
                                      r148
                                  else
                                    if p0 = 54 then
                                      if p1 = 0 then
                                        if p2 = 0 then
                                          let r164 : Int32 := gsY_X11_truth_1 NF 0 v f w g
                                          r164
                                        else
                                          let r167 : Int32 := gsY_X11_truth_1 NF 1 v f w g
                                          r167
                                      else
                                        let r160 : Int32 := gsY_X11_truth_1 NF 1 v f w g
                                        r160
                                    else
                                      if p0 = 55 then
                                        if p1 = 0 then
                                          if p2 = 0 then
                                            let r176 : Int32 := gsY_X11_truth_1 NF 0 v f w g
                                            r176
                                          else
                                            let r179 : Int32 := gsY_X11_truth_1 NF 1 v f w g
                                            r179
                                        else
                                          let r172 : Int32 := gsY_X11_truth_1 NF 1 v f w g
                                          r172
                                      else
                                        if p0 = 56 then
                                          if p1 = 0 then
                                            if p2 = 0 then
                                              let r188 : Int32 := gsY_X11_truth_1 NF 0 v f w g
                                              r188
                                            else
                                              let r191 : Int32 := gsY_X11_truth_1 NF 1 v f w g
                                              r191
                                          else
                                            let r184 : Int32 := gsY_X11_truth_1 NF 1 v f w g
                                            r184
                                        else
                                          if p0 = 57 then
                                            if p1 = 0 then
                                              if p2 = 0 then
                                                let r200 : Int32 := gsY_X11_truth_1 NF 0 v f w g
                                                r200
                                              else
                                                let r203 : Int32 := gsY_X11_truth_1 NF 1 v f w g
                                                r203
                                            else
                                              let r196 : Int32 := gsY_X11_truth_1 NF 1 v f w g
                                              r196
                                          else
                                            if p0 = 58 then
                                              if p1 = 0 then
                                                if p2 = 0 then
                                                  let r212 : Int32 := gsY_X11_truth_1 NF 0 v f w g
                                                  r212
                                                else
                                                  let r215 : Int32 := gsY_X11_truth_1 NF 1 v f w g
                                                  r215
                                              else
                                                let r208 : Int32 := gsY_X11_truth_1 NF 1 v f w g
                                                r208
                                            else
                                              if p0 = 59 then
                                                if p1 = 0 then
                                                  if p2 = 0 then
                                                    let r224 : Int32 := gsY_X11_truth_1 NF 0 v f w g
                                                    r224
                                                  else
                                                    let r227 : Int32 := gsY_X11_truth_1 NF 1 v f w g
                                                    r227
                                                else
                                                  let r220 : Int32 := gsY_X11_truth_1 NF 1 v f w g
                                                  r220
                                              else
                                                if p0 = 60 then
                                                  if p2 ≤ p1 then
                                                    let r234 : Int32 := gsY_X11_truth_1 NF 0 v f w g
                                                    r234
                                                  else
                                                    let r239 : Int32 := gsY_X11_truth_1 NF 1 v f w g
                                                    r239
                                                else
                                                  if p0 = 61 then
                                                    if p1 = p2 then
                                                      let r251 : Int32 := gsY_X11_truth_1 NF 1 v f w g
                                                      r251
                                                    else
                                                      let r246 : Int32 := gsY_X11_truth_1 NF 0 v f w g
                                                      r246
                                                  else
                                                    if p0 = 62 then
                                                      if p1 ≤ p2 then
                                                        let r258 : Int32 := gsY_X11_truth_1 NF 0 v f w g
                                                        r258
                                                      else
                                                        let r263 : Int32 := gsY_X11_truth_1 NF 1 v f w g
                                                        r263
                                                    else
                                                      if p1 = 0 then
                                                        if p2 = 0 then
                                                          let r271 : Int32 := gsY_X11_truth_1 NF 0 v f w g
                                                          r271
                                                        else
                                                          let r274 : Int32 := gsY_X11_truth_1 NF 1 v f w g
                                                          r274
                                                      else
                                                        let r267 : Int32 := gsY_X11_truth_1 NF 1 v f w g
                                                        r267
theorem gsY_X11_done_1_q0 {NF : Nat} {p0 : Int32} {p1 : Int32} {p2 : Int32} {v : Nat → Int32} {f : Nat → Nat → Int32} {w : Int64} {g : Nat → Int64} {t3 : Int32} (h0 : (p0 = 37)) (h1 : ¬ (p2 = 0)) (h2 : t3 = p1 - p1 / p2 * p2) : gsY_X11_done_1 NF p0 p1 p2 v f w g = t3 := by
  subst h2
  simp only [gsY_X11_done_1, if_pos h0, if_neg h1]
theorem gsY_X11_done_1_q1 {NF : Nat} {p0 : Int32} {p1 : Int32} {p2 : Int32} {v : Nat → Int32} {f : Nat → Nat → Int32} {w : Int64} {g : Nat → Int64} (h0 : (p0 = 37)) (h1 : (p2 = 0)) : gsY_X11_done_1 NF p0 p1 p2 v f w g = 0 := by
  simp only [gsY_X11_done_1, if_pos h0, if_pos h1]
theorem gsY_X11_done_1_q2 {NF : Nat} {p0 : Int32} {p1 : Int32} {p2 : Int32} {v : Nat → Int32} {f : Nat → Nat → Int32} {w : Int64} {g : Nat → Int64} {r7 : Int32} (h0 : ¬ (p0 = 37)) (h1 : (p0 = 38)) (h2 : (p1 = 0)) (h3 : r7 = gsY_X11_truth_1 NF 0 v f w g) : gsY_X11_done_1 NF p0 p1 p2 v f w g = r7 := by
  subst h3
  simp only [gsY_X11_done_1, if_neg h0, if_pos h1, if_pos h2]
theorem gsY_X11_done_1_q3 {NF : Nat} {p0 : Int32} {p1 : Int32} {p2 : Int32} {v : Nat → Int32} {f : Nat → Nat → Int32} {w : Int64} {g : Nat → Int64} {r11 : Int32} (h0 : ¬ (p0 = 37)) (h1 : (p0 = 38)) (h2 : ¬ (p1 = 0)) (h3 : (p2 = 0)) (h4 : r11 = gsY_X11_truth_1 NF 0 v f w g) : gsY_X11_done_1 NF p0 p1 p2 v f w g = r11 := by
  subst h4
  simp only [gsY_X11_done_1, if_neg h0, if_pos h1, if_neg h2, if_pos h3]
theorem gsY_X11_done_1_q4 {NF : Nat} {p0 : Int32} {p1 : Int32} {p2 : Int32} {v : Nat → Int32} {f : Nat → Nat → Int32} {w : Int64} {g : Nat → Int64} {r14 : Int32} (h0 : ¬ (p0 = 37)) (h1 : (p0 = 38)) (h2 : ¬ (p1 = 0)) (h3 : ¬ (p2 = 0)) (h4 : r14 = gsY_X11_truth_1 NF 1 v f w g) : gsY_X11_done_1 NF p0 p1 p2 v f w g = r14 := by
  subst h4
  simp only [gsY_X11_done_1, if_neg h0, if_pos h1, if_neg h2, if_neg h3]
theorem gsY_X11_done_1_q5 {NF : Nat} {p0 : Int32} {p1 : Int32} {p2 : Int32} {v : Nat → Int32} {f : Nat → Nat → Int32} {w : Int64} {g : Nat → Int64} {r19 : Int32} (h0 : ¬ (p0 = 37)) (h1 : ¬ (p0 = 38)) (h2 : (p0 = 39)) (h3 : ¬ (p1 = 0)) (h4 : r19 = gsY_X11_truth_1 NF 1 v f w g) : gsY_X11_done_1 NF p0 p1 p2 v f w g = r19 := by
  subst h4
  simp only [gsY_X11_done_1, if_neg h0, if_neg h1, if_pos h2, if_neg h3]
theorem gsY_X11_done_1_q6 {NF : Nat} {p0 : Int32} {p1 : Int32} {p2 : Int32} {v : Nat → Int32} {f : Nat → Nat → Int32} {w : Int64} {g : Nat → Int64} {r23 : Int32} (h0 : ¬ (p0 = 37)) (h1 : ¬ (p0 = 38)) (h2 : (p0 = 39)) (h3 : (p1 = 0)) (h4 : (p2 = 0)) (h5 : r23 = gsY_X11_truth_1 NF 0 v f w g) : gsY_X11_done_1 NF p0 p1 p2 v f w g = r23 := by
  subst h5
  simp only [gsY_X11_done_1, if_neg h0, if_neg h1, if_pos h2, if_pos h3, if_pos h4]
theorem gsY_X11_done_1_q7 {NF : Nat} {p0 : Int32} {p1 : Int32} {p2 : Int32} {v : Nat → Int32} {f : Nat → Nat → Int32} {w : Int64} {g : Nat → Int64} {r26 : Int32} (h0 : ¬ (p0 = 37)) (h1 : ¬ (p0 = 38)) (h2 : (p0 = 39)) (h3 : (p1 = 0)) (h4 : ¬ (p2 = 0)) (h5 : r26 = gsY_X11_truth_1 NF 1 v f w g) : gsY_X11_done_1 NF p0 p1 p2 v f w g = r26 := by
  subst h5
  simp only [gsY_X11_done_1, if_neg h0, if_neg h1, if_pos h2, if_pos h3, if_neg h4]
theorem gsY_X11_done_1_q8 {NF : Nat} {p0 : Int32} {p1 : Int32} {p2 : Int32} {v : Nat → Int32} {f : Nat → Nat → Int32} {w : Int64} {g : Nat → Int64} {r31 : Int32} (h0 : ¬ (p0 = 37)) (h1 : ¬ (p0 = 38)) (h2 : ¬ (p0 = 39)) (h3 : (p0 = 40)) (h4 : ¬ (p1 = 0)) (h5 : r31 = gsY_X11_truth_1 NF 1 v f w g) : gsY_X11_done_1 NF p0 p1 p2 v f w g = r31 := by
  subst h5
  simp only [gsY_X11_done_1, if_neg h0, if_neg h1, if_neg h2, if_pos h3, if_neg h4]
theorem gsY_X11_done_1_q9 {NF : Nat} {p0 : Int32} {p1 : Int32} {p2 : Int32} {v : Nat → Int32} {f : Nat → Nat → Int32} {w : Int64} {g : Nat → Int64} {r35 : Int32} (h0 : ¬ (p0 = 37)) (h1 : ¬ (p0 = 38)) (h2 : ¬ (p0 = 39)) (h3 : (p0 = 40)) (h4 : (p1 = 0)) (h5 : (p2 = 0)) (h6 : r35 = gsY_X11_truth_1 NF 0 v f w g) : gsY_X11_done_1 NF p0 p1 p2 v f w g = r35 := by
  subst h6
  simp only [gsY_X11_done_1, if_neg h0, if_neg h1, if_neg h2, if_pos h3, if_pos h4, if_pos h5]
theorem gsY_X11_done_1_q10 {NF : Nat} {p0 : Int32} {p1 : Int32} {p2 : Int32} {v : Nat → Int32} {f : Nat → Nat → Int32} {w : Int64} {g : Nat → Int64} {r38 : Int32} (h0 : ¬ (p0 = 37)) (h1 : ¬ (p0 = 38)) (h2 : ¬ (p0 = 39)) (h3 : (p0 = 40)) (h4 : (p1 = 0)) (h5 : ¬ (p2 = 0)) (h6 : r38 = gsY_X11_truth_1 NF 1 v f w g) : gsY_X11_done_1 NF p0 p1 p2 v f w g = r38 := by
  subst h6
  simp only [gsY_X11_done_1, if_neg h0, if_neg h1, if_neg h2, if_pos h3, if_pos h4, if_neg h5]
theorem gsY_X11_done_1_q11 {NF : Nat} {p0 : Int32} {p1 : Int32} {p2 : Int32} {v : Nat → Int32} {f : Nat → Nat → Int32} {w : Int64} {g : Nat → Int64} {r43 : Int32} (h0 : ¬ (p0 = 37)) (h1 : ¬ (p0 = 38)) (h2 : ¬ (p0 = 39)) (h3 : ¬ (p0 = 40)) (h4 : (p0 = 41)) (h5 : ¬ (p1 = 0)) (h6 : r43 = gsY_X11_truth_1 NF 1 v f w g) : gsY_X11_done_1 NF p0 p1 p2 v f w g = r43 := by
  subst h6
  simp only [gsY_X11_done_1, if_neg h0, if_neg h1, if_neg h2, if_neg h3, if_pos h4, if_neg h5]
theorem gsY_X11_done_1_q12 {NF : Nat} {p0 : Int32} {p1 : Int32} {p2 : Int32} {v : Nat → Int32} {f : Nat → Nat → Int32} {w : Int64} {g : Nat → Int64} {r47 : Int32} (h0 : ¬ (p0 = 37)) (h1 : ¬ (p0 = 38)) (h2 : ¬ (p0 = 39)) (h3 : ¬ (p0 = 40)) (h4 : (p0 = 41)) (h5 : (p1 = 0)) (h6 : (p2 = 0)) (h7 : r47 = gsY_X11_truth_1 NF 0 v f w g) : gsY_X11_done_1 NF p0 p1 p2 v f w g = r47 := by
  subst h7
  simp only [gsY_X11_done_1, if_neg h0, if_neg h1, if_neg h2, if_neg h3, if_pos h4, if_pos h5, if_pos h6]
theorem gsY_X11_done_1_q13 {NF : Nat} {p0 : Int32} {p1 : Int32} {p2 : Int32} {v : Nat → Int32} {f : Nat → Nat → Int32} {w : Int64} {g : Nat → Int64} {r50 : Int32} (h0 : ¬ (p0 = 37)) (h1 : ¬ (p0 = 38)) (h2 : ¬ (p0 = 39)) (h3 : ¬ (p0 = 40)) (h4 : (p0 = 41)) (h5 : (p1 = 0)) (h6 : ¬ (p2 = 0)) (h7 : r50 = gsY_X11_truth_1 NF 1 v f w g) : gsY_X11_done_1 NF p0 p1 p2 v f w g = r50 := by
  subst h7
  simp only [gsY_X11_done_1, if_neg h0, if_neg h1, if_neg h2, if_neg h3, if_pos h4, if_pos h5, if_neg h6]
theorem gsY_X11_done_1_q14 {NF : Nat} {p0 : Int32} {p1 : Int32} {p2 : Int32} {v : Nat → Int32} {f : Nat → Nat → Int32} {w : Int64} {g : Nat → Int64} {t53 : Int32} (h0 : ¬ (p0 = 37)) (h1 : ¬ (p0 = 38)) (h2 : ¬ (p0 = 39)) (h3 : ¬ (p0 = 40)) (h4 : ¬ (p0 = 41)) (h5 : (p0 = 42)) (h6 : t53 = p1 * p2) : gsY_X11_done_1 NF p0 p1 p2 v f w g = t53 := by
  subst h6
  simp only [gsY_X11_done_1, if_neg h0, if_neg h1, if_neg h2, if_neg h3, if_neg h4, if_pos h5]
theorem gsY_X11_done_1_q15 {NF : Nat} {p0 : Int32} {p1 : Int32} {p2 : Int32} {v : Nat → Int32} {f : Nat → Nat → Int32} {w : Int64} {g : Nat → Int64} {t55 : Int32} (h0 : ¬ (p0 = 37)) (h1 : ¬ (p0 = 38)) (h2 : ¬ (p0 = 39)) (h3 : ¬ (p0 = 40)) (h4 : ¬ (p0 = 41)) (h5 : ¬ (p0 = 42)) (h6 : (p0 = 43)) (h7 : t55 = p1 + p2) : gsY_X11_done_1 NF p0 p1 p2 v f w g = t55 := by
  subst h7
  simp only [gsY_X11_done_1, if_neg h0, if_neg h1, if_neg h2, if_neg h3, if_neg h4, if_neg h5, if_pos h6]
theorem gsY_X11_done_1_q16 {NF : Nat} {p0 : Int32} {p1 : Int32} {p2 : Int32} {v : Nat → Int32} {f : Nat → Nat → Int32} {w : Int64} {g : Nat → Int64} {r59 : Int32} (h0 : ¬ (p0 = 37)) (h1 : ¬ (p0 = 38)) (h2 : ¬ (p0 = 39)) (h3 : ¬ (p0 = 40)) (h4 : ¬ (p0 = 41)) (h5 : ¬ (p0 = 42)) (h6 : ¬ (p0 = 43)) (h7 : (p0 = 44)) (h8 : ¬ (p1 = 0)) (h9 : r59 = gsY_X11_truth_1 NF 1 v f w g) : gsY_X11_done_1 NF p0 p1 p2 v f w g = r59 := by
  subst h9
  simp only [gsY_X11_done_1, if_neg h0, if_neg h1, if_neg h2, if_neg h3, if_neg h4, if_neg h5, if_neg h6, if_pos h7, if_neg h8]
theorem gsY_X11_done_1_q17 {NF : Nat} {p0 : Int32} {p1 : Int32} {p2 : Int32} {v : Nat → Int32} {f : Nat → Nat → Int32} {w : Int64} {g : Nat → Int64} {r63 : Int32} (h0 : ¬ (p0 = 37)) (h1 : ¬ (p0 = 38)) (h2 : ¬ (p0 = 39)) (h3 : ¬ (p0 = 40)) (h4 : ¬ (p0 = 41)) (h5 : ¬ (p0 = 42)) (h6 : ¬ (p0 = 43)) (h7 : (p0 = 44)) (h8 : (p1 = 0)) (h9 : (p2 = 0)) (h10 : r63 = gsY_X11_truth_1 NF 0 v f w g) : gsY_X11_done_1 NF p0 p1 p2 v f w g = r63 := by
  subst h10
  simp only [gsY_X11_done_1, if_neg h0, if_neg h1, if_neg h2, if_neg h3, if_neg h4, if_neg h5, if_neg h6, if_pos h7, if_pos h8, if_pos h9]
theorem gsY_X11_done_1_q18 {NF : Nat} {p0 : Int32} {p1 : Int32} {p2 : Int32} {v : Nat → Int32} {f : Nat → Nat → Int32} {w : Int64} {g : Nat → Int64} {r66 : Int32} (h0 : ¬ (p0 = 37)) (h1 : ¬ (p0 = 38)) (h2 : ¬ (p0 = 39)) (h3 : ¬ (p0 = 40)) (h4 : ¬ (p0 = 41)) (h5 : ¬ (p0 = 42)) (h6 : ¬ (p0 = 43)) (h7 : (p0 = 44)) (h8 : (p1 = 0)) (h9 : ¬ (p2 = 0)) (h10 : r66 = gsY_X11_truth_1 NF 1 v f w g) : gsY_X11_done_1 NF p0 p1 p2 v f w g = r66 := by
  subst h10
  simp only [gsY_X11_done_1, if_neg h0, if_neg h1, if_neg h2, if_neg h3, if_neg h4, if_neg h5, if_neg h6, if_pos h7, if_pos h8, if_neg h9]
theorem gsY_X11_done_1_q19 {NF : Nat} {p0 : Int32} {p1 : Int32} {p2 : Int32} {v : Nat → Int32} {f : Nat → Nat → Int32} {w : Int64} {g : Nat → Int64} {t69 : Int32} (h0 : ¬ (p0 = 37)) (h1 : ¬ (p0 = 38)) (h2 : ¬ (p0 = 39)) (h3 : ¬ (p0 = 40)) (h4 : ¬ (p0 = 41)) (h5 : ¬ (p0 = 42)) (h6 : ¬ (p0 = 43)) (h7 : ¬ (p0 = 44)) (h8 : (p0 = 45)) (h9 : t69 = p1 - p2) : gsY_X11_done_1 NF p0 p1 p2 v f w g = t69 := by
  subst h9
  simp only [gsY_X11_done_1, if_neg h0, if_neg h1, if_neg h2, if_neg h3, if_neg h4, if_neg h5, if_neg h6, if_neg h7, if_pos h8]
theorem gsY_X11_done_1_q20 {NF : Nat} {p0 : Int32} {p1 : Int32} {p2 : Int32} {v : Nat → Int32} {f : Nat → Nat → Int32} {w : Int64} {g : Nat → Int64} {r73 : Int32} (h0 : ¬ (p0 = 37)) (h1 : ¬ (p0 = 38)) (h2 : ¬ (p0 = 39)) (h3 : ¬ (p0 = 40)) (h4 : ¬ (p0 = 41)) (h5 : ¬ (p0 = 42)) (h6 : ¬ (p0 = 43)) (h7 : ¬ (p0 = 44)) (h8 : ¬ (p0 = 45)) (h9 : (p0 = 46)) (h10 : ¬ (p1 = 0)) (h11 : r73 = gsY_X11_truth_1 NF 1 v f w g) : gsY_X11_done_1 NF p0 p1 p2 v f w g = r73 := by
  subst h11
  simp only [gsY_X11_done_1, if_neg h0, if_neg h1, if_neg h2, if_neg h3, if_neg h4, if_neg h5, if_neg h6, if_neg h7, if_neg h8, if_pos h9, if_neg h10]
theorem gsY_X11_done_1_q21 {NF : Nat} {p0 : Int32} {p1 : Int32} {p2 : Int32} {v : Nat → Int32} {f : Nat → Nat → Int32} {w : Int64} {g : Nat → Int64} {r77 : Int32} (h0 : ¬ (p0 = 37)) (h1 : ¬ (p0 = 38)) (h2 : ¬ (p0 = 39)) (h3 : ¬ (p0 = 40)) (h4 : ¬ (p0 = 41)) (h5 : ¬ (p0 = 42)) (h6 : ¬ (p0 = 43)) (h7 : ¬ (p0 = 44)) (h8 : ¬ (p0 = 45)) (h9 : (p0 = 46)) (h10 : (p1 = 0)) (h11 : (p2 = 0)) (h12 : r77 = gsY_X11_truth_1 NF 0 v f w g) : gsY_X11_done_1 NF p0 p1 p2 v f w g = r77 := by
  subst h12
  simp only [gsY_X11_done_1, if_neg h0, if_neg h1, if_neg h2, if_neg h3, if_neg h4, if_neg h5, if_neg h6, if_neg h7, if_neg h8, if_pos h9, if_pos h10, if_pos h11]
theorem gsY_X11_done_1_q22 {NF : Nat} {p0 : Int32} {p1 : Int32} {p2 : Int32} {v : Nat → Int32} {f : Nat → Nat → Int32} {w : Int64} {g : Nat → Int64} {r80 : Int32} (h0 : ¬ (p0 = 37)) (h1 : ¬ (p0 = 38)) (h2 : ¬ (p0 = 39)) (h3 : ¬ (p0 = 40)) (h4 : ¬ (p0 = 41)) (h5 : ¬ (p0 = 42)) (h6 : ¬ (p0 = 43)) (h7 : ¬ (p0 = 44)) (h8 : ¬ (p0 = 45)) (h9 : (p0 = 46)) (h10 : (p1 = 0)) (h11 : ¬ (p2 = 0)) (h12 : r80 = gsY_X11_truth_1 NF 1 v f w g) : gsY_X11_done_1 NF p0 p1 p2 v f w g = r80 := by
  subst h12
  simp only [gsY_X11_done_1, if_neg h0, if_neg h1, if_neg h2, if_neg h3, if_neg h4, if_neg h5, if_neg h6, if_neg h7, if_neg h8, if_pos h9, if_pos h10, if_neg h11]
theorem gsY_X11_done_1_q23 {NF : Nat} {p0 : Int32} {p1 : Int32} {p2 : Int32} {v : Nat → Int32} {f : Nat → Nat → Int32} {w : Int64} {g : Nat → Int64} {t84 : Int32} (h0 : ¬ (p0 = 37)) (h1 : ¬ (p0 = 38)) (h2 : ¬ (p0 = 39)) (h3 : ¬ (p0 = 40)) (h4 : ¬ (p0 = 41)) (h5 : ¬ (p0 = 42)) (h6 : ¬ (p0 = 43)) (h7 : ¬ (p0 = 44)) (h8 : ¬ (p0 = 45)) (h9 : ¬ (p0 = 46)) (h10 : (p0 = 47)) (h11 : ¬ (p2 = 0)) (h12 : t84 = p1 / p2) : gsY_X11_done_1 NF p0 p1 p2 v f w g = t84 := by
  subst h12
  simp only [gsY_X11_done_1, if_neg h0, if_neg h1, if_neg h2, if_neg h3, if_neg h4, if_neg h5, if_neg h6, if_neg h7, if_neg h8, if_neg h9, if_pos h10, if_neg h11]
theorem gsY_X11_done_1_q24 {NF : Nat} {p0 : Int32} {p1 : Int32} {p2 : Int32} {v : Nat → Int32} {f : Nat → Nat → Int32} {w : Int64} {g : Nat → Int64} (h0 : ¬ (p0 = 37)) (h1 : ¬ (p0 = 38)) (h2 : ¬ (p0 = 39)) (h3 : ¬ (p0 = 40)) (h4 : ¬ (p0 = 41)) (h5 : ¬ (p0 = 42)) (h6 : ¬ (p0 = 43)) (h7 : ¬ (p0 = 44)) (h8 : ¬ (p0 = 45)) (h9 : ¬ (p0 = 46)) (h10 : (p0 = 47)) (h11 : (p2 = 0)) : gsY_X11_done_1 NF p0 p1 p2 v f w g = 0 := by
  simp only [gsY_X11_done_1, if_neg h0, if_neg h1, if_neg h2, if_neg h3, if_neg h4, if_neg h5, if_neg h6, if_neg h7, if_neg h8, if_neg h9, if_pos h10, if_pos h11]
theorem gsY_X11_done_1_q25 {NF : Nat} {p0 : Int32} {p1 : Int32} {p2 : Int32} {v : Nat → Int32} {f : Nat → Nat → Int32} {w : Int64} {g : Nat → Int64} {r88 : Int32} (h0 : ¬ (p0 = 37)) (h1 : ¬ (p0 = 38)) (h2 : ¬ (p0 = 39)) (h3 : ¬ (p0 = 40)) (h4 : ¬ (p0 = 41)) (h5 : ¬ (p0 = 42)) (h6 : ¬ (p0 = 43)) (h7 : ¬ (p0 = 44)) (h8 : ¬ (p0 = 45)) (h9 : ¬ (p0 = 46)) (h10 : ¬ (p0 = 47)) (h11 : (p0 = 48)) (h12 : ¬ (p1 = 0)) (h13 : r88 = gsY_X11_truth_1 NF 1 v f w g) : gsY_X11_done_1 NF p0 p1 p2 v f w g = r88 := by
  subst h13
  simp only [gsY_X11_done_1, if_neg h0, if_neg h1, if_neg h2, if_neg h3, if_neg h4, if_neg h5, if_neg h6, if_neg h7, if_neg h8, if_neg h9, if_neg h10, if_pos h11, if_neg h12]
theorem gsY_X11_done_1_q26 {NF : Nat} {p0 : Int32} {p1 : Int32} {p2 : Int32} {v : Nat → Int32} {f : Nat → Nat → Int32} {w : Int64} {g : Nat → Int64} {r92 : Int32} (h0 : ¬ (p0 = 37)) (h1 : ¬ (p0 = 38)) (h2 : ¬ (p0 = 39)) (h3 : ¬ (p0 = 40)) (h4 : ¬ (p0 = 41)) (h5 : ¬ (p0 = 42)) (h6 : ¬ (p0 = 43)) (h7 : ¬ (p0 = 44)) (h8 : ¬ (p0 = 45)) (h9 : ¬ (p0 = 46)) (h10 : ¬ (p0 = 47)) (h11 : (p0 = 48)) (h12 : (p1 = 0)) (h13 : (p2 = 0)) (h14 : r92 = gsY_X11_truth_1 NF 0 v f w g) : gsY_X11_done_1 NF p0 p1 p2 v f w g = r92 := by
  subst h14
  simp only [gsY_X11_done_1, if_neg h0, if_neg h1, if_neg h2, if_neg h3, if_neg h4, if_neg h5, if_neg h6, if_neg h7, if_neg h8, if_neg h9, if_neg h10, if_pos h11, if_pos h12, if_pos h13]
theorem gsY_X11_done_1_q27 {NF : Nat} {p0 : Int32} {p1 : Int32} {p2 : Int32} {v : Nat → Int32} {f : Nat → Nat → Int32} {w : Int64} {g : Nat → Int64} {r95 : Int32} (h0 : ¬ (p0 = 37)) (h1 : ¬ (p0 = 38)) (h2 : ¬ (p0 = 39)) (h3 : ¬ (p0 = 40)) (h4 : ¬ (p0 = 41)) (h5 : ¬ (p0 = 42)) (h6 : ¬ (p0 = 43)) (h7 : ¬ (p0 = 44)) (h8 : ¬ (p0 = 45)) (h9 : ¬ (p0 = 46)) (h10 : ¬ (p0 = 47)) (h11 : (p0 = 48)) (h12 : (p1 = 0)) (h13 : ¬ (p2 = 0)) (h14 : r95 = gsY_X11_truth_1 NF 1 v f w g) : gsY_X11_done_1 NF p0 p1 p2 v f w g = r95 := by
  subst h14
  simp only [gsY_X11_done_1, if_neg h0, if_neg h1, if_neg h2, if_neg h3, if_neg h4, if_neg h5, if_neg h6, if_neg h7, if_neg h8, if_neg h9, if_neg h10, if_pos h11, if_pos h12, if_neg h13]
theorem gsY_X11_done_1_q28 {NF : Nat} {p0 : Int32} {p1 : Int32} {p2 : Int32} {v : Nat → Int32} {f : Nat → Nat → Int32} {w : Int64} {g : Nat → Int64} {r100 : Int32} (h0 : ¬ (p0 = 37)) (h1 : ¬ (p0 = 38)) (h2 : ¬ (p0 = 39)) (h3 : ¬ (p0 = 40)) (h4 : ¬ (p0 = 41)) (h5 : ¬ (p0 = 42)) (h6 : ¬ (p0 = 43)) (h7 : ¬ (p0 = 44)) (h8 : ¬ (p0 = 45)) (h9 : ¬ (p0 = 46)) (h10 : ¬ (p0 = 47)) (h11 : ¬ (p0 = 48)) (h12 : (p0 = 49)) (h13 : ¬ (p1 = 0)) (h14 : r100 = gsY_X11_truth_1 NF 1 v f w g) : gsY_X11_done_1 NF p0 p1 p2 v f w g = r100 := by
  subst h14
  simp only [gsY_X11_done_1, if_neg h0, if_neg h1, if_neg h2, if_neg h3, if_neg h4, if_neg h5, if_neg h6, if_neg h7, if_neg h8, if_neg h9, if_neg h10, if_neg h11, if_pos h12, if_neg h13]
theorem gsY_X11_done_1_q29 {NF : Nat} {p0 : Int32} {p1 : Int32} {p2 : Int32} {v : Nat → Int32} {f : Nat → Nat → Int32} {w : Int64} {g : Nat → Int64} {r104 : Int32} (h0 : ¬ (p0 = 37)) (h1 : ¬ (p0 = 38)) (h2 : ¬ (p0 = 39)) (h3 : ¬ (p0 = 40)) (h4 : ¬ (p0 = 41)) (h5 : ¬ (p0 = 42)) (h6 : ¬ (p0 = 43)) (h7 : ¬ (p0 = 44)) (h8 : ¬ (p0 = 45)) (h9 : ¬ (p0 = 46)) (h10 : ¬ (p0 = 47)) (h11 : ¬ (p0 = 48)) (h12 : (p0 = 49)) (h13 : (p1 = 0)) (h14 : (p2 = 0)) (h15 : r104 = gsY_X11_truth_1 NF 0 v f w g) : gsY_X11_done_1 NF p0 p1 p2 v f w g = r104 := by
  subst h15
  simp only [gsY_X11_done_1, if_neg h0, if_neg h1, if_neg h2, if_neg h3, if_neg h4, if_neg h5, if_neg h6, if_neg h7, if_neg h8, if_neg h9, if_neg h10, if_neg h11, if_pos h12, if_pos h13, if_pos h14]
theorem gsY_X11_done_1_q30 {NF : Nat} {p0 : Int32} {p1 : Int32} {p2 : Int32} {v : Nat → Int32} {f : Nat → Nat → Int32} {w : Int64} {g : Nat → Int64} {r107 : Int32} (h0 : ¬ (p0 = 37)) (h1 : ¬ (p0 = 38)) (h2 : ¬ (p0 = 39)) (h3 : ¬ (p0 = 40)) (h4 : ¬ (p0 = 41)) (h5 : ¬ (p0 = 42)) (h6 : ¬ (p0 = 43)) (h7 : ¬ (p0 = 44)) (h8 : ¬ (p0 = 45)) (h9 : ¬ (p0 = 46)) (h10 : ¬ (p0 = 47)) (h11 : ¬ (p0 = 48)) (h12 : (p0 = 49)) (h13 : (p1 = 0)) (h14 : ¬ (p2 = 0)) (h15 : r107 = gsY_X11_truth_1 NF 1 v f w g) : gsY_X11_done_1 NF p0 p1 p2 v f w g = r107 := by
  subst h15
  simp only [gsY_X11_done_1, if_neg h0, if_neg h1, if_neg h2, if_neg h3, if_neg h4, if_neg h5, if_neg h6, if_neg h7, if_neg h8, if_neg h9, if_neg h10, if_neg h11, if_pos h12, if_pos h13, if_neg h14]
theorem gsY_X11_done_1_q31 {NF : Nat} {p0 : Int32} {p1 : Int32} {p2 : Int32} {v : Nat → Int32} {f : Nat → Nat → Int32} {w : Int64} {g : Nat → Int64} {r112 : Int32} (h0 : ¬ (p0 = 37)) (h1 : ¬ (p0 = 38)) (h2 : ¬ (p0 = 39)) (h3 : ¬ (p0 = 40)) (h4 : ¬ (p0 = 41)) (h5 : ¬ (p0 = 42)) (h6 : ¬ (p0 = 43)) (h7 : ¬ (p0 = 44)) (h8 : ¬ (p0 = 45)) (h9 : ¬ (p0 = 46)) (h10 : ¬ (p0 = 47)) (h11 : ¬ (p0 = 48)) (h12 : ¬ (p0 = 49)) (h13 : (p0 = 50)) (h14 : ¬ (p1 = 0)) (h15 : r112 = gsY_X11_truth_1 NF 1 v f w g) : gsY_X11_done_1 NF p0 p1 p2 v f w g = r112 := by
  subst h15
  simp only [gsY_X11_done_1, if_neg h0, if_neg h1, if_neg h2, if_neg h3, if_neg h4, if_neg h5, if_neg h6, if_neg h7, if_neg h8, if_neg h9, if_neg h10, if_neg h11, if_neg h12, if_pos h13, if_neg h14]
theorem gsY_X11_done_1_q32 {NF : Nat} {p0 : Int32} {p1 : Int32} {p2 : Int32} {v : Nat → Int32} {f : Nat → Nat → Int32} {w : Int64} {g : Nat → Int64} {r116 : Int32} (h0 : ¬ (p0 = 37)) (h1 : ¬ (p0 = 38)) (h2 : ¬ (p0 = 39)) (h3 : ¬ (p0 = 40)) (h4 : ¬ (p0 = 41)) (h5 : ¬ (p0 = 42)) (h6 : ¬ (p0 = 43)) (h7 : ¬ (p0 = 44)) (h8 : ¬ (p0 = 45)) (h9 : ¬ (p0 = 46)) (h10 : ¬ (p0 = 47)) (h11 : ¬ (p0 = 48)) (h12 : ¬ (p0 = 49)) (h13 : (p0 = 50)) (h14 : (p1 = 0)) (h15 : (p2 = 0)) (h16 : r116 = gsY_X11_truth_1 NF 0 v f w g) : gsY_X11_done_1 NF p0 p1 p2 v f w g = r116 := by
  subst h16
  simp only [gsY_X11_done_1, if_neg h0, if_neg h1, if_neg h2, if_neg h3, if_neg h4, if_neg h5, if_neg h6, if_neg h7, if_neg h8, if_neg h9, if_neg h10, if_neg h11, if_neg h12, if_pos h13, if_pos h14, if_pos h15]
theorem gsY_X11_done_1_q33 {NF : Nat} {p0 : Int32} {p1 : Int32} {p2 : Int32} {v : Nat → Int32} {f : Nat → Nat → Int32} {w : Int64} {g : Nat → Int64} {r119 : Int32} (h0 : ¬ (p0 = 37)) (h1 : ¬ (p0 = 38)) (h2 : ¬ (p0 = 39)) (h3 : ¬ (p0 = 40)) (h4 : ¬ (p0 = 41)) (h5 : ¬ (p0 = 42)) (h6 : ¬ (p0 = 43)) (h7 : ¬ (p0 = 44)) (h8 : ¬ (p0 = 45)) (h9 : ¬ (p0 = 46)) (h10 : ¬ (p0 = 47)) (h11 : ¬ (p0 = 48)) (h12 : ¬ (p0 = 49)) (h13 : (p0 = 50)) (h14 : (p1 = 0)) (h15 : ¬ (p2 = 0)) (h16 : r119 = gsY_X11_truth_1 NF 1 v f w g) : gsY_X11_done_1 NF p0 p1 p2 v f w g = r119 := by
  subst h16
  simp only [gsY_X11_done_1, if_neg h0, if_neg h1, if_neg h2, if_neg h3, if_neg h4, if_neg h5, if_neg h6, if_neg h7, if_neg h8, if_neg h9, if_neg h10, if_neg h11, if_neg h12, if_pos h13, if_pos h14, if_neg h15]
theorem gsY_X11_done_1_q34 {NF : Nat} {p0 : Int32} {p1 : Int32} {p2 : Int32} {v : Nat → Int32} {f : Nat → Nat → Int32} {w : Int64} {g : Nat → Int64} {r124 : Int32} (h0 : ¬ (p0 = 37)) (h1 : ¬ (p0 = 38)) (h2 : ¬ (p0 = 39)) (h3 : ¬ (p0 = 40)) (h4 : ¬ (p0 = 41)) (h5 : ¬ (p0 = 42)) (h6 : ¬ (p0 = 43)) (h7 : ¬ (p0 = 44)) (h8 : ¬ (p0 = 45)) (h9 : ¬ (p0 = 46)) (h10 : ¬ (p0 = 47)) (h11 : ¬ (p0 = 48)) (h12 : ¬ (p0 = 49)) (h13 : ¬ (p0 = 50)) (h14 : (p0 = 51)) (h15 : ¬ (p1 = 0)) (h16 : r124 = gsY_X11_truth_1 NF 1 v f w g) : gsY_X11_done_1 NF p0 p1 p2 v f w g = r124 := by
  subst h16
  simp only [gsY_X11_done_1, if_neg h0, if_neg h1, if_neg h2, if_neg h3, if_neg h4, if_neg h5, if_neg h6, if_neg h7, if_neg h8, if_neg h9, if_neg h10, if_neg h11, if_neg h12, if_neg h13, if_pos h14, if_neg h15]
theorem gsY_X11_done_1_q35 {NF : Nat} {p0 : Int32} {p1 : Int32} {p2 : Int32} {v : Nat → Int32} {f : Nat → Nat → Int32} {w : Int64} {g : Nat → Int64} {r128 : Int32} (h0 : ¬ (p0 = 37)) (h1 : ¬ (p0 = 38)) (h2 : ¬ (p0 = 39)) (h3 : ¬ (p0 = 40)) (h4 : ¬ (p0 = 41)) (h5 : ¬ (p0 = 42)) (h6 : ¬ (p0 = 43)) (h7 : ¬ (p0 = 44)) (h8 : ¬ (p0 = 45)) (h9 : ¬ (p0 = 46)) (h10 : ¬ (p0 = 47)) (h11 : ¬ (p0 = 48)) (h12 : ¬ (p0 = 49)) (h13 : ¬ (p0 = 50)) (h14 : (p0 = 51)) (h15 : (p1 = 0)) (h16 : (p2 = 0)) (h17 : r128 = gsY_X11_truth_1 NF 0 v f w g) : gsY_X11_done_1 NF p0 p1 p2 v f w g = r128 := by
  subst h17
  simp only [gsY_X11_done_1, if_neg h0, if_neg h1, if_neg h2, if_neg h3, if_neg h4, if_neg h5, if_neg h6, if_neg h7, if_neg h8, if_neg h9, if_neg h10, if_neg h11, if_neg h12, if_neg h13, if_pos h14, if_pos h15, if_pos h16]
theorem gsY_X11_done_1_q36 {NF : Nat} {p0 : Int32} {p1 : Int32} {p2 : Int32} {v : Nat → Int32} {f : Nat → Nat → Int32} {w : Int64} {g : Nat → Int64} {r131 : Int32} (h0 : ¬ (p0 = 37)) (h1 : ¬ (p0 = 38)) (h2 : ¬ (p0 = 39)) (h3 : ¬ (p0 = 40)) (h4 : ¬ (p0 = 41)) (h5 : ¬ (p0 = 42)) (h6 : ¬ (p0 = 43)) (h7 : ¬ (p0 = 44)) (h8 : ¬ (p0 = 45)) (h9 : ¬ (p0 = 46)) (h10 : ¬ (p0 = 47)) (h11 : ¬ (p0 = 48)) (h12 : ¬ (p0 = 49)) (h13 : ¬ (p0 = 50)) (h14 : (p0 = 51)) (h15 : (p1 = 0)) (h16 : ¬ (p2 = 0)) (h17 : r131 = gsY_X11_truth_1 NF 1 v f w g) : gsY_X11_done_1 NF p0 p1 p2 v f w g = r131 := by
  subst h17
  simp only [gsY_X11_done_1, if_neg h0, if_neg h1, if_neg h2, if_neg h3, if_neg h4, if_neg h5, if_neg h6, if_neg h7, if_neg h8, if_neg h9, if_neg h10, if_neg h11, if_neg h12, if_neg h13, if_pos h14, if_pos h15, if_neg h16]
theorem gsY_X11_done_1_q37 {NF : Nat} {p0 : Int32} {p1 : Int32} {p2 : Int32} {v : Nat → Int32} {f : Nat → Nat → Int32} {w : Int64} {g : Nat → Int64} {r136 : Int32} (h0 : ¬ (p0 = 37)) (h1 : ¬ (p0 = 38)) (h2 : ¬ (p0 = 39)) (h3 : ¬ (p0 = 40)) (h4 : ¬ (p0 = 41)) (h5 : ¬ (p0 = 42)) (h6 : ¬ (p0 = 43)) (h7 : ¬ (p0 = 44)) (h8 : ¬ (p0 = 45)) (h9 : ¬ (p0 = 46)) (h10 : ¬ (p0 = 47)) (h11 : ¬ (p0 = 48)) (h12 : ¬ (p0 = 49)) (h13 : ¬ (p0 = 50)) (h14 : ¬ (p0 = 51)) (h15 : (p0 = 52)) (h16 : ¬ (p1 = 0)) (h17 : r136 = gsY_X11_truth_1 NF 1 v f w g) : gsY_X11_done_1 NF p0 p1 p2 v f w g = r136 := by
  subst h17
  simp only [gsY_X11_done_1, if_neg h0, if_neg h1, if_neg h2, if_neg h3, if_neg h4, if_neg h5, if_neg h6, if_neg h7, if_neg h8, if_neg h9, if_neg h10, if_neg h11, if_neg h12, if_neg h13, if_neg h14, if_pos h15, if_neg h16]
theorem gsY_X11_done_1_q38 {NF : Nat} {p0 : Int32} {p1 : Int32} {p2 : Int32} {v : Nat → Int32} {f : Nat → Nat → Int32} {w : Int64} {g : Nat → Int64} {r140 : Int32} (h0 : ¬ (p0 = 37)) (h1 : ¬ (p0 = 38)) (h2 : ¬ (p0 = 39)) (h3 : ¬ (p0 = 40)) (h4 : ¬ (p0 = 41)) (h5 : ¬ (p0 = 42)) (h6 : ¬ (p0 = 43)) (h7 : ¬ (p0 = 44)) (h8 : ¬ (p0 = 45)) (h9 : ¬ (p0 = 46)) (h10 : ¬ (p0 = 47)) (h11 : ¬ (p0 = 48)) (h12 : ¬ (p0 = 49)) (h13 : ¬ (p0 = 50)) (h14 : ¬ (p0 = 51)) (h15 : (p0 = 52)) (h16 : (p1 = 0)) (h17 : (p2 = 0)) (h18 : r140 = gsY_X11_truth_1 NF 0 v f w g) : gsY_X11_done_1 NF p0 p1 p2 v f w g = r140 := by
  subst h18
  simp only [gsY_X11_done_1, if_neg h0, if_neg h1, if_neg h2, if_neg h3, if_neg h4, if_neg h5, if_neg h6, if_neg h7, if_neg h8, if_neg h9, if_neg h10, if_neg h11, if_neg h12, if_neg h13, if_neg h14, if_pos h15, if_pos h16, if_pos h17]
theorem gsY_X11_done_1_q39 {NF : Nat} {p0 : Int32} {p1 : Int32} {p2 : Int32} {v : Nat → Int32} {f : Nat → Nat → Int32} {w : Int64} {g : Nat → Int64} {r143 : Int32} (h0 : ¬ (p0 = 37)) (h1 : ¬ (p0 = 38)) (h2 : ¬ (p0 = 39)) (h3 : ¬ (p0 = 40)) (h4 : ¬ (p0 = 41)) (h5 : ¬ (p0 = 42)) (h6 : ¬ (p0 = 43)) (h7 : ¬ (p0 = 44)) (h8 : ¬ (p0 = 45)) (h9 : ¬ (p0 = 46)) (h10 : ¬ (p0 = 47)) (h11 : ¬ (p0 = 48)) (h12 : ¬ (p0 = 49)) (h13 : ¬ (p0 = 50)) (h14 : ¬ (p0 = 51)) (h15 : (p0 = 52)) (h16 : (p1 = 0)) (h17 : ¬ (p2 = 0)) (h18 : r143 = gsY_X11_truth_1 NF 1 v f w g) : gsY_X11_done_1 NF p0 p1 p2 v f w g = r143 := by
  subst h18
  simp only [gsY_X11_done_1, if_neg h0, if_neg h1, if_neg h2, if_neg h3, if_neg h4, if_neg h5, if_neg h6, if_neg h7, if_neg h8, if_neg h9, if_neg h10, if_neg h11, if_neg h12, if_neg h13, if_neg h14, if_pos h15, if_pos h16, if_neg h17]
theorem gsY_X11_done_1_q40 {NF : Nat} {p0 : Int32} {p1 : Int32} {p2 : Int32} {v : Nat → Int32} {f : Nat → Nat → Int32} {w : Int64} {g : Nat → Int64} {r148 : Int32} (h0 : ¬ (p0 = 37)) (h1 : ¬ (p0 = 38)) (h2 : ¬ (p0 = 39)) (h3 : ¬ (p0 = 40)) (h4 : ¬ (p0 = 41)) (h5 : ¬ (p0 = 42)) (h6 : ¬ (p0 = 43)) (h7 : ¬ (p0 = 44)) (h8 : ¬ (p0 = 45)) (h9 : ¬ (p0 = 46)) (h10 : ¬ (p0 = 47)) (h11 : ¬ (p0 = 48)) (h12 : ¬ (p0 = 49)) (h13 : ¬ (p0 = 50)) (h14 : ¬ (p0 = 51)) (h15 : ¬ (p0 = 52)) (h16 : (p0 = 53)) (h17 : ¬ (p1 = 0)) (h18 : r148 = gsY_X11_truth_1 NF 1 v f w g) : gsY_X11_done_1 NF p0 p1 p2 v f w g = r148 := by
  subst h18
  simp only [gsY_X11_done_1, if_neg h0, if_neg h1, if_neg h2, if_neg h3, if_neg h4, if_neg h5, if_neg h6, if_neg h7, if_neg h8, if_neg h9, if_neg h10, if_neg h11, if_neg h12, if_neg h13, if_neg h14, if_neg h15, if_pos h16, if_neg h17]
theorem gsY_X11_done_1_q41 {NF : Nat} {p0 : Int32} {p1 : Int32} {p2 : Int32} {v : Nat → Int32} {f : Nat → Nat → Int32} {w : Int64} {g : Nat → Int64} {r152 : Int32} (h0 : ¬ (p0 = 37)) (h1 : ¬ (p0 = 38)) (h2 : ¬ (p0 = 39)) (h3 : ¬ (p0 = 40)) (h4 : ¬ (p0 = 41)) (h5 : ¬ (p0 = 42)) (h6 : ¬ (p0 = 43)) (h7 : ¬ (p0 = 44)) (h8 : ¬ (p0 = 45)) (h9 : ¬ (p0 = 46)) (h10 : ¬ (p0 = 47)) (h11 : ¬ (p0 = 48)) (h12 : ¬ (p0 = 49)) (h13 : ¬ (p0 = 50)) (h14 : ¬ (p0 = 51)) (h15 : ¬ (p0 = 52)) (h16 : (p0 = 53)) (h17 : (p1 = 0)) (h18 : (p2 = 0)) (h19 : r152 = gsY_X11_truth_1 NF 0 v f w g) : gsY_X11_done_1 NF p0 p1 p2 v f w g = r152 := by
  subst h19
  simp only [gsY_X11_done_1, if_neg h0, if_neg h1, if_neg h2, if_neg h3, if_neg h4, if_neg h5, if_neg h6, if_neg h7, if_neg h8, if_neg h9, if_neg h10, if_neg h11, if_neg h12, if_neg h13, if_neg h14, if_neg h15, if_pos h16, if_pos h17, if_pos h18]
theorem gsY_X11_done_1_q42 {NF : Nat} {p0 : Int32} {p1 : Int32} {p2 : Int32} {v : Nat → Int32} {f : Nat → Nat → Int32} {w : Int64} {g : Nat → Int64} {r155 : Int32} (h0 : ¬ (p0 = 37)) (h1 : ¬ (p0 = 38)) (h2 : ¬ (p0 = 39)) (h3 : ¬ (p0 = 40)) (h4 : ¬ (p0 = 41)) (h5 : ¬ (p0 = 42)) (h6 : ¬ (p0 = 43)) (h7 : ¬ (p0 = 44)) (h8 : ¬ (p0 = 45)) (h9 : ¬ (p0 = 46)) (h10 : ¬ (p0 = 47)) (h11 : ¬ (p0 = 48)) (h12 : ¬ (p0 = 49)) (h13 : ¬ (p0 = 50)) (h14 : ¬ (p0 = 51)) (h15 : ¬ (p0 = 52)) (h16 : (p0 = 53)) (h17 : (p1 = 0)) (h18 : ¬ (p2 = 0)) (h19 : r155 = gsY_X11_truth_1 NF 1 v f w g) : gsY_X11_done_1 NF p0 p1 p2 v f w g = r155 := by
  subst h19
  simp only [gsY_X11_done_1, if_neg h0, if_neg h1, if_neg h2, if_neg h3, if_neg h4, if_neg h5, if_neg h6, if_neg h7, if_neg h8, if_neg h9, if_neg h10, if_neg h11, if_neg h12, if_neg h13, if_neg h14, if_neg h15, if_pos h16, if_pos h17, if_neg h18]
theorem gsY_X11_done_1_q43 {NF : Nat} {p0 : Int32} {p1 : Int32} {p2 : Int32} {v : Nat → Int32} {f : Nat → Nat → Int32} {w : Int64} {g : Nat → Int64} {r160 : Int32} (h0 : ¬ (p0 = 37)) (h1 : ¬ (p0 = 38)) (h2 : ¬ (p0 = 39)) (h3 : ¬ (p0 = 40)) (h4 : ¬ (p0 = 41)) (h5 : ¬ (p0 = 42)) (h6 : ¬ (p0 = 43)) (h7 : ¬ (p0 = 44)) (h8 : ¬ (p0 = 45)) (h9 : ¬ (p0 = 46)) (h10 : ¬ (p0 = 47)) (h11 : ¬ (p0 = 48)) (h12 : ¬ (p0 = 49)) (h13 : ¬ (p0 = 50)) (h14 : ¬ (p0 = 51)) (h15 : ¬ (p0 = 52)) (h16 : ¬ (p0 = 53)) (h17 : (p0 = 54)) (h18 : ¬ (p1 = 0)) (h19 : r160 = gsY_X11_truth_1 NF 1 v f w g) : gsY_X11_done_1 NF p0 p1 p2 v f w g = r160 := by
  subst h19
  simp only [gsY_X11_done_1, if_neg h0, if_neg h1, if_neg h2, if_neg h3, if_neg h4, if_neg h5, if_neg h6, if_neg h7, if_neg h8, if_neg h9, if_neg h10, if_neg h11, if_neg h12, if_neg h13, if_neg h14, if_neg h15, if_neg h16, if_pos h17, if_neg h18]
theorem gsY_X11_done_1_q44 {NF : Nat} {p0 : Int32} {p1 : Int32} {p2 : Int32} {v : Nat → Int32} {f : Nat → Nat → Int32} {w : Int64} {g : Nat → Int64} {r164 : Int32} (h0 : ¬ (p0 = 37)) (h1 : ¬ (p0 = 38)) (h2 : ¬ (p0 = 39)) (h3 : ¬ (p0 = 40)) (h4 : ¬ (p0 = 41)) (h5 : ¬ (p0 = 42)) (h6 : ¬ (p0 = 43)) (h7 : ¬ (p0 = 44)) (h8 : ¬ (p0 = 45)) (h9 : ¬ (p0 = 46)) (h10 : ¬ (p0 = 47)) (h11 : ¬ (p0 = 48)) (h12 : ¬ (p0 = 49)) (h13 : ¬ (p0 = 50)) (h14 : ¬ (p0 = 51)) (h15 : ¬ (p0 = 52)) (h16 : ¬ (p0 = 53)) (h17 : (p0 = 54)) (h18 : (p1 = 0)) (h19 : (p2 = 0)) (h20 : r164 = gsY_X11_truth_1 NF 0 v f w g) : gsY_X11_done_1 NF p0 p1 p2 v f w g = r164 := by
  subst h20
  simp only [gsY_X11_done_1, if_neg h0, if_neg h1, if_neg h2, if_neg h3, if_neg h4, if_neg h5, if_neg h6, if_neg h7, if_neg h8, if_neg h9, if_neg h10, if_neg h11, if_neg h12, if_neg h13, if_neg h14, if_neg h15, if_neg h16, if_pos h17, if_pos h18, if_pos h19]
theorem gsY_X11_done_1_q45 {NF : Nat} {p0 : Int32} {p1 : Int32} {p2 : Int32} {v : Nat → Int32} {f : Nat → Nat → Int32} {w : Int64} {g : Nat → Int64} {r167 : Int32} (h0 : ¬ (p0 = 37)) (h1 : ¬ (p0 = 38)) (h2 : ¬ (p0 = 39)) (h3 : ¬ (p0 = 40)) (h4 : ¬ (p0 = 41)) (h5 : ¬ (p0 = 42)) (h6 : ¬ (p0 = 43)) (h7 : ¬ (p0 = 44)) (h8 : ¬ (p0 = 45)) (h9 : ¬ (p0 = 46)) (h10 : ¬ (p0 = 47)) (h11 : ¬ (p0 = 48)) (h12 : ¬ (p0 = 49)) (h13 : ¬ (p0 = 50)) (h14 : ¬ (p0 = 51)) (h15 : ¬ (p0 = 52)) (h16 : ¬ (p0 = 53)) (h17 : (p0 = 54)) (h18 : (p1 = 0)) (h19 : ¬ (p2 = 0)) (h20 : r167 = gsY_X11_truth_1 NF 1 v f w g) : gsY_X11_done_1 NF p0 p1 p2 v f w g = r167 := by
  subst h20
  simp only [gsY_X11_done_1, if_neg h0, if_neg h1, if_neg h2, if_neg h3, if_neg h4, if_neg h5, if_neg h6, if_neg h7, if_neg h8, if_neg h9, if_neg h10, if_neg h11, if_neg h12, if_neg h13, if_neg h14, if_neg h15, if_neg h16, if_pos h17, if_pos h18, if_neg h19]
theorem gsY_X11_done_1_q46 {NF : Nat} {p0 : Int32} {p1 : Int32} {p2 : Int32} {v : Nat → Int32} {f : Nat → Nat → Int32} {w : Int64} {g : Nat → Int64} {r172 : Int32} (h0 : ¬ (p0 = 37)) (h1 : ¬ (p0 = 38)) (h2 : ¬ (p0 = 39)) (h3 : ¬ (p0 = 40)) (h4 : ¬ (p0 = 41)) (h5 : ¬ (p0 = 42)) (h6 : ¬ (p0 = 43)) (h7 : ¬ (p0 = 44)) (h8 : ¬ (p0 = 45)) (h9 : ¬ (p0 = 46)) (h10 : ¬ (p0 = 47)) (h11 : ¬ (p0 = 48)) (h12 : ¬ (p0 = 49)) (h13 : ¬ (p0 = 50)) (h14 : ¬ (p0 = 51)) (h15 : ¬ (p0 = 52)) (h16 : ¬ (p0 = 53)) (h17 : ¬ (p0 = 54)) (h18 : (p0 = 55)) (h19 : ¬ (p1 = 0)) (h20 : r172 = gsY_X11_truth_1 NF 1 v f w g) : gsY_X11_done_1 NF p0 p1 p2 v f w g = r172 := by
  subst h20
  simp only [gsY_X11_done_1, if_neg h0, if_neg h1, if_neg h2, if_neg h3, if_neg h4, if_neg h5, if_neg h6, if_neg h7, if_neg h8, if_neg h9, if_neg h10, if_neg h11, if_neg h12, if_neg h13, if_neg h14, if_neg h15, if_neg h16, if_neg h17, if_pos h18, if_neg h19]
theorem gsY_X11_done_1_q47 {NF : Nat} {p0 : Int32} {p1 : Int32} {p2 : Int32} {v : Nat → Int32} {f : Nat → Nat → Int32} {w : Int64} {g : Nat → Int64} {r176 : Int32} (h0 : ¬ (p0 = 37)) (h1 : ¬ (p0 = 38)) (h2 : ¬ (p0 = 39)) (h3 : ¬ (p0 = 40)) (h4 : ¬ (p0 = 41)) (h5 : ¬ (p0 = 42)) (h6 : ¬ (p0 = 43)) (h7 : ¬ (p0 = 44)) (h8 : ¬ (p0 = 45)) (h9 : ¬ (p0 = 46)) (h10 : ¬ (p0 = 47)) (h11 : ¬ (p0 = 48)) (h12 : ¬ (p0 = 49)) (h13 : ¬ (p0 = 50)) (h14 : ¬ (p0 = 51)) (h15 : ¬ (p0 = 52)) (h16 : ¬ (p0 = 53)) (h17 : ¬ (p0 = 54)) (h18 : (p0 = 55)) (h19 : (p1 = 0)) (h20 : (p2 = 0)) (h21 : r176 = gsY_X11_truth_1 NF 0 v f w g) : gsY_X11_done_1 NF p0 p1 p2 v f w g = r176 := by
  subst h21
  simp only [gsY_X11_done_1, if_neg h0, if_neg h1, if_neg h2, if_neg h3, if_neg h4, if_neg h5, if_neg h6, if_neg h7, if_neg h8, if_neg h9, if_neg h10, if_neg h11, if_neg h12, if_neg h13, if_neg h14, if_neg h15, if_neg h16, if_neg h17, if_pos h18, if_pos h19, if_pos h20]
theorem gsY_X11_done_1_q48 {NF : Nat} {p0 : Int32} {p1 : Int32} {p2 : Int32} {v : Nat → Int32} {f : Nat → Nat → Int32} {w : Int64} {g : Nat → Int64} {r179 : Int32} (h0 : ¬ (p0 = 37)) (h1 : ¬ (p0 = 38)) (h2 : ¬ (p0 = 39)) (h3 : ¬ (p0 = 40)) (h4 : ¬ (p0 = 41)) (h5 : ¬ (p0 = 42)) (h6 : ¬ (p0 = 43)) (h7 : ¬ (p0 = 44)) (h8 : ¬ (p0 = 45)) (h9 : ¬ (p0 = 46)) (h10 : ¬ (p0 = 47)) (h11 : ¬ (p0 = 48)) (h12 : ¬ (p0 = 49)) (h13 : ¬ (p0 = 50)) (h14 : ¬ (p0 = 51)) (h15 : ¬ (p0 = 52)) (h16 : ¬ (p0 = 53)) (h17 : ¬ (p0 = 54)) (h18 : (p0 = 55)) (h19 : (p1 = 0)) (h20 : ¬ (p2 = 0)) (h21 : r179 = gsY_X11_truth_1 NF 1 v f w g) : gsY_X11_done_1 NF p0 p1 p2 v f w g = r179 := by
  subst h21
  simp only [gsY_X11_done_1, if_neg h0, if_neg h1, if_neg h2, if_neg h3, if_neg h4, if_neg h5, if_neg h6, if_neg h7, if_neg h8, if_neg h9, if_neg h10, if_neg h11, if_neg h12, if_neg h13, if_neg h14, if_neg h15, if_neg h16, if_neg h17, if_pos h18, if_pos h19, if_neg h20]
theorem gsY_X11_done_1_q49 {NF : Nat} {p0 : Int32} {p1 : Int32} {p2 : Int32} {v : Nat → Int32} {f : Nat → Nat → Int32} {w : Int64} {g : Nat → Int64} {r184 : Int32} (h0 : ¬ (p0 = 37)) (h1 : ¬ (p0 = 38)) (h2 : ¬ (p0 = 39)) (h3 : ¬ (p0 = 40)) (h4 : ¬ (p0 = 41)) (h5 : ¬ (p0 = 42)) (h6 : ¬ (p0 = 43)) (h7 : ¬ (p0 = 44)) (h8 : ¬ (p0 = 45)) (h9 : ¬ (p0 = 46)) (h10 : ¬ (p0 = 47)) (h11 : ¬ (p0 = 48)) (h12 : ¬ (p0 = 49)) (h13 : ¬ (p0 = 50)) (h14 : ¬ (p0 = 51)) (h15 : ¬ (p0 = 52)) (h16 : ¬ (p0 = 53)) (h17 : ¬ (p0 = 54)) (h18 : ¬ (p0 = 55)) (h19 : (p0 = 56)) (h20 : ¬ (p1 = 0)) (h21 : r184 = gsY_X11_truth_1 NF 1 v f w g) : gsY_X11_done_1 NF p0 p1 p2 v f w g = r184 := by
  subst h21
  simp only [gsY_X11_done_1, if_neg h0, if_neg h1, if_neg h2, if_neg h3, if_neg h4, if_neg h5, if_neg h6, if_neg h7, if_neg h8, if_neg h9, if_neg h10, if_neg h11, if_neg h12, if_neg h13, if_neg h14, if_neg h15, if_neg h16, if_neg h17, if_neg h18, if_pos h19, if_neg h20]
theorem gsY_X11_done_1_q50 {NF : Nat} {p0 : Int32} {p1 : Int32} {p2 : Int32} {v : Nat → Int32} {f : Nat → Nat → Int32} {w : Int64} {g : Nat → Int64} {r188 : Int32} (h0 : ¬ (p0 = 37)) (h1 : ¬ (p0 = 38)) (h2 : ¬ (p0 = 39)) (h3 : ¬ (p0 = 40)) (h4 : ¬ (p0 = 41)) (h5 : ¬ (p0 = 42)) (h6 : ¬ (p0 = 43)) (h7 : ¬ (p0 = 44)) (h8 : ¬ (p0 = 45)) (h9 : ¬ (p0 = 46)) (h10 : ¬ (p0 = 47)) (h11 : ¬ (p0 = 48)) (h12 : ¬ (p0 = 49)) (h13 : ¬ (p0 = 50)) (h14 : ¬ (p0 = 51)) (h15 : ¬ (p0 = 52)) (h16 : ¬ (p0 = 53)) (h17 : ¬ (p0 = 54)) (h18 : ¬ (p0 = 55)) (h19 : (p0 = 56)) (h20 : (p1 = 0)) (h21 : (p2 = 0)) (h22 : r188 = gsY_X11_truth_1 NF 0 v f w g) : gsY_X11_done_1 NF p0 p1 p2 v f w g = r188 := by
  subst h22
  simp only [gsY_X11_done_1, if_neg h0, if_neg h1, if_neg h2, if_neg h3, if_neg h4, if_neg h5, if_neg h6, if_neg h7, if_neg h8, if_neg h9, if_neg h10, if_neg h11, if_neg h12, if_neg h13, if_neg h14, if_neg h15, if_neg h16, if_neg h17, if_neg h18, if_pos h19, if_pos h20, if_pos h21]
theorem gsY_X11_done_1_q51 {NF : Nat} {p0 : Int32} {p1 : Int32} {p2 : Int32} {v : Nat → Int32} {f : Nat → Nat → Int32} {w : Int64} {g : Nat → Int64} {r191 : Int32} (h0 : ¬ (p0 = 37)) (h1 : ¬ (p0 = 38)) (h2 : ¬ (p0 = 39)) (h3 : ¬ (p0 = 40)) (h4 : ¬ (p0 = 41)) (h5 : ¬ (p0 = 42)) (h6 : ¬ (p0 = 43)) (h7 : ¬ (p0 = 44)) (h8 : ¬ (p0 = 45)) (h9 : ¬ (p0 = 46)) (h10 : ¬ (p0 = 47)) (h11 : ¬ (p0 = 48)) (h12 : ¬ (p0 = 49)) (h13 : ¬ (p0 = 50)) (h14 : ¬ (p0 = 51)) (h15 : ¬ (p0 = 52)) (h16 : ¬ (p0 = 53)) (h17 : ¬ (p0 = 54)) (h18 : ¬ (p0 = 55)) (h19 : (p0 = 56)) (h20 : (p1 = 0)) (h21 : ¬ (p2 = 0)) (h22 : r191 = gsY_X11_truth_1 NF 1 v f w g) : gsY_X11_done_1 NF p0 p1 p2 v f w g = r191 := by
  subst h22
  simp only [gsY_X11_done_1, if_neg h0, if_neg h1, if_neg h2, if_neg h3, if_neg h4, if_neg h5, if_neg h6, if_neg h7, if_neg h8, if_neg h9, if_neg h10, if_neg h11, if_neg h12, if_neg h13, if_neg h14, if_neg h15, if_neg h16, if_neg h17, if_neg h18, if_pos h19, if_pos h20, if_neg h21]
theorem gsY_X11_done_1_q52 {NF : Nat} {p0 : Int32} {p1 : Int32} {p2 : Int32} {v : Nat → Int32} {f : Nat → Nat → Int32} {w : Int64} {g : Nat → Int64} {r196 : Int32} (h0 : ¬ (p0 = 37)) (h1 : ¬ (p0 = 38)) (h2 : ¬ (p0 = 39)) (h3 : ¬ (p0 = 40)) (h4 : ¬ (p0 = 41)) (h5 : ¬ (p0 = 42)) (h6 : ¬ (p0 = 43)) (h7 : ¬ (p0 = 44)) (h8 : ¬ (p0 = 45)) (h9 : ¬ (p0 = 46)) (h10 : ¬ (p0 = 47)) (h11 : ¬ (p0 = 48)) (h12 : ¬ (p0 = 49)) (h13 : ¬ (p0 = 50)) (h14 : ¬ (p0 = 51)) (h15 : ¬ (p0 = 52)) (h16 : ¬ (p0 = 53)) (h17 : ¬ (p0 = 54)) (h18 : ¬ (p0 = 55)) (h19 : ¬ (p0 = 56)) (h20 : (p0 = 57)) (h21 : ¬ (p1 = 0)) (h22 : r196 = gsY_X11_truth_1 NF 1 v f w g) : gsY_X11_done_1 NF p0 p1 p2 v f w g = r196 := by
  subst h22
  simp only [gsY_X11_done_1, if_neg h0, if_neg h1, if_neg h2, if_neg h3, if_neg h4, if_neg h5, if_neg h6, if_neg h7, if_neg h8, if_neg h9, if_neg h10, if_neg h11, if_neg h12, if_neg h13, if_neg h14, if_neg h15, if_neg h16, if_neg h17, if_neg h18, if_neg h19, if_pos h20, if_neg h21]
theorem gsY_X11_done_1_q53 {NF : Nat} {p0 : Int32} {p1 : Int32} {p2 : Int32} {v : Nat → Int32} {f : Nat → Nat → Int32} {w : Int64} {g : Nat → Int64} {r200 : Int32} (h0 : ¬ (p0 = 37)) (h1 : ¬ (p0 = 38)) (h2 : ¬ (p0 = 39)) (h3 : ¬ (p0 = 40)) (h4 : ¬ (p0 = 41)) (h5 : ¬ (p0 = 42)) (h6 : ¬ (p0 = 43)) (h7 : ¬ (p0 = 44)) (h8 : ¬ (p0 = 45)) (h9 : ¬ (p0 = 46)) (h10 : ¬ (p0 = 47)) (h11 : ¬ (p0 = 48)) (h12 : ¬ (p0 = 49)) (h13 : ¬ (p0 = 50)) (h14 : ¬ (p0 = 51)) (h15 : ¬ (p0 = 52)) (h16 : ¬ (p0 = 53)) (h17 : ¬ (p0 = 54)) (h18 : ¬ (p0 = 55)) (h19 : ¬ (p0 = 56)) (h20 : (p0 = 57)) (h21 : (p1 = 0)) (h22 : (p2 = 0)) (h23 : r200 = gsY_X11_truth_1 NF 0 v f w g) : gsY_X11_done_1 NF p0 p1 p2 v f w g = r200 := by
  subst h23
  simp only [gsY_X11_done_1, if_neg h0, if_neg h1, if_neg h2, if_neg h3, if_neg h4, if_neg h5, if_neg h6, if_neg h7, if_neg h8, if_neg h9, if_neg h10, if_neg h11, if_neg h12, if_neg h13, if_neg h14, if_neg h15, if_neg h16, if_neg h17, if_neg h18, if_neg h19, if_pos h20, if_pos h21, if_pos h22]
theorem gsY_X11_done_1_q54 {NF : Nat} {p0 : Int32} {p1 : Int32} {p2 : Int32} {v : Nat → Int32} {f : Nat → Nat → Int32} {w : Int64} {g : Nat → Int64} {r203 : Int32} (h0 : ¬ (p0 = 37)) (h1 : ¬ (p0 = 38)) (h2 : ¬ (p0 = 39)) (h3 : ¬ (p0 = 40)) (h4 : ¬ (p0 = 41)) (h5 : ¬ (p0 = 42)) (h6 : ¬ (p0 = 43)) (h7 : ¬ (p0 = 44)) (h8 : ¬ (p0 = 45)) (h9 : ¬ (p0 = 46)) (h10 : ¬ (p0 = 47)) (h11 : ¬ (p0 = 48)) (h12 : ¬ (p0 = 49)) (h13 : ¬ (p0 = 50)) (h14 : ¬ (p0 = 51)) (h15 : ¬ (p0 = 52)) (h16 : ¬ (p0 = 53)) (h17 : ¬ (p0 = 54)) (h18 : ¬ (p0 = 55)) (h19 : ¬ (p0 = 56)) (h20 : (p0 = 57)) (h21 : (p1 = 0)) (h22 : ¬ (p2 = 0)) (h23 : r203 = gsY_X11_truth_1 NF 1 v f w g) : gsY_X11_done_1 NF p0 p1 p2 v f w g = r203 := by
  subst h23
  simp only [gsY_X11_done_1, if_neg h0, if_neg h1, if_neg h2, if_neg h3, if_neg h4, if_neg h5, if_neg h6, if_neg h7, if_neg h8, if_neg h9, if_neg h10, if_neg h11, if_neg h12, if_neg h13, if_neg h14, if_neg h15, if_neg h16, if_neg h17, if_neg h18, if_neg h19, if_pos h20, if_pos h21, if_neg h22]
theorem gsY_X11_done_1_q55 {NF : Nat} {p0 : Int32} {p1 : Int32} {p2 : Int32} {v : Nat → Int32} {f : Nat → Nat → Int32} {w : Int64} {g : Nat → Int64} {r208 : Int32} (h0 : ¬ (p0 = 37)) (h1 : ¬ (p0 = 38)) (h2 : ¬ (p0 = 39)) (h3 : ¬ (p0 = 40)) (h4 : ¬ (p0 = 41)) (h5 : ¬ (p0 = 42)) (h6 : ¬ (p0 = 43)) (h7 : ¬ (p0 = 44)) (h8 : ¬ (p0 = 45)) (h9 : ¬ (p0 = 46)) (h10 : ¬ (p0 = 47)) (h11 : ¬ (p0 = 48)) (h12 : ¬ (p0 = 49)) (h13 : ¬ (p0 = 50)) (h14 : ¬ (p0 = 51)) (h15 : ¬ (p0 = 52)) (h16 : ¬ (p0 = 53)) (h17 : ¬ (p0 = 54)) (h18 : ¬ (p0 = 55)) (h19 : ¬ (p0 = 56)) (h20 : ¬ (p0 = 57)) (h21 : (p0 = 58)) (h22 : ¬ (p1 = 0)) (h23 : r208 = gsY_X11_truth_1 NF 1 v f w g) : gsY_X11_done_1 NF p0 p1 p2 v f w g = r208 := by
  subst h23
  simp only [gsY_X11_done_1, if_neg h0, if_neg h1, if_neg h2, if_neg h3, if_neg h4, if_neg h5, if_neg h6, if_neg h7, if_neg h8, if_neg h9, if_neg h10, if_neg h11, if_neg h12, if_neg h13, if_neg h14, if_neg h15, if_neg h16, if_neg h17, if_neg h18, if_neg h19, if_neg h20, if_pos h21, if_neg h22]
theorem gsY_X11_done_1_q56 {NF : Nat} {p0 : Int32} {p1 : Int32} {p2 : Int32} {v : Nat → Int32} {f : Nat → Nat → Int32} {w : Int64} {g : Nat → Int64} {r212 : Int32} (h0 : ¬ (p0 = 37)) (h1 : ¬ (p0 = 38)) (h2 : ¬ (p0 = 39)) (h3 : ¬ (p0 = 40)) (h4 : ¬ (p0 = 41)) (h5 : ¬ (p0 = 42)) (h6 : ¬ (p0 = 43)) (h7 : ¬ (p0 = 44)) (h8 : ¬ (p0 = 45)) (h9 : ¬ (p0 = 46)) (h10 : ¬ (p0 = 47)) (h11 : ¬ (p0 = 48)) (h12 : ¬ (p0 = 49)) (h13 : ¬ (p0 = 50)) (h14 : ¬ (p0 = 51)) (h15 : ¬ (p0 = 52)) (h16 : ¬ (p0 = 53)) (h17 : ¬ (p0 = 54)) (h18 : ¬ (p0 = 55)) (h19 : ¬ (p0 = 56)) (h20 : ¬ (p0 = 57)) (h21 : (p0 = 58)) (h22 : (p1 = 0)) (h23 : (p2 = 0)) (h24 : r212 = gsY_X11_truth_1 NF 0 v f w g) : gsY_X11_done_1 NF p0 p1 p2 v f w g = r212 := by
  subst h24
  simp only [gsY_X11_done_1, if_neg h0, if_neg h1, if_neg h2, if_neg h3, if_neg h4, if_neg h5, if_neg h6, if_neg h7, if_neg h8, if_neg h9, if_neg h10, if_neg h11, if_neg h12, if_neg h13, if_neg h14, if_neg h15, if_neg h16, if_neg h17, if_neg h18, if_neg h19, if_neg h20, if_pos h21, if_pos h22, if_pos h23]
theorem gsY_X11_done_1_q57 {NF : Nat} {p0 : Int32} {p1 : Int32} {p2 : Int32} {v : Nat → Int32} {f : Nat → Nat → Int32} {w : Int64} {g : Nat → Int64} {r215 : Int32} (h0 : ¬ (p0 = 37)) (h1 : ¬ (p0 = 38)) (h2 : ¬ (p0 = 39)) (h3 : ¬ (p0 = 40)) (h4 : ¬ (p0 = 41)) (h5 : ¬ (p0 = 42)) (h6 : ¬ (p0 = 43)) (h7 : ¬ (p0 = 44)) (h8 : ¬ (p0 = 45)) (h9 : ¬ (p0 = 46)) (h10 : ¬ (p0 = 47)) (h11 : ¬ (p0 = 48)) (h12 : ¬ (p0 = 49)) (h13 : ¬ (p0 = 50)) (h14 : ¬ (p0 = 51)) (h15 : ¬ (p0 = 52)) (h16 : ¬ (p0 = 53)) (h17 : ¬ (p0 = 54)) (h18 : ¬ (p0 = 55)) (h19 : ¬ (p0 = 56)) (h20 : ¬ (p0 = 57)) (h21 : (p0 = 58)) (h22 : (p1 = 0)) (h23 : ¬ (p2 = 0)) (h24 : r215 = gsY_X11_truth_1 NF 1 v f w g) : gsY_X11_done_1 NF p0 p1 p2 v f w g = r215 := by
  subst h24
  simp only [gsY_X11_done_1, if_neg h0, if_neg h1, if_neg h2, if_neg h3, if_neg h4, if_neg h5, if_neg h6, if_neg h7, if_neg h8, if_neg h9, if_neg h10, if_neg h11, if_neg h12, if_neg h13, if_neg h14, if_neg h15, if_neg h16, if_neg h17, if_neg h18, if_neg h19, if_neg h20, if_pos h21, if_pos h22, if_neg h23]
theorem gsY_X11_done_1_q58 {NF : Nat} {p0 : Int32} {p1 : Int32} {p2 : Int32} {v : Nat → Int32} {f : Nat → Nat → Int32} {w : Int64} {g : Nat → Int64} {r220 : Int32} (h0 : ¬ (p0 = 37)) (h1 : ¬ (p0 = 38)) (h2 : ¬ (p0 = 39)) (h3 : ¬ (p0 = 40)) (h4 : ¬ (p0 = 41)) (h5 : ¬ (p0 = 42)) (h6 : ¬ (p0 = 43)) (h7 : ¬ (p0 = 44)) (h8 : ¬ (p0 = 45)) (h9 : ¬ (p0 = 46)) (h10 : ¬ (p0 = 47)) (h11 : ¬ (p0 = 48)) (h12 : ¬ (p0 = 49)) (h13 : ¬ (p0 = 50)) (h14 : ¬ (p0 = 51)) (h15 : ¬ (p0 = 52)) (h16 : ¬ (p0 = 53)) (h17 : ¬ (p0 = 54)) (h18 : ¬ (p0 = 55)) (h19 : ¬ (p0 = 56)) (h20 : ¬ (p0 = 57)) (h21 : ¬ (p0 = 58)) (h22 : (p0 = 59)) (h23 : ¬ (p1 = 0)) (h24 : r220 = gsY_X11_truth_1 NF 1 v f w g) : gsY_X11_done_1 NF p0 p1 p2 v f w g = r220 := by
  subst h24
  simp only [gsY_X11_done_1, if_neg h0, if_neg h1, if_neg h2, if_neg h3, if_neg h4, if_neg h5, if_neg h6, if_neg h7, if_neg h8, if_neg h9, if_neg h10, if_neg h11, if_neg h12, if_neg h13, if_neg h14, if_neg h15, if_neg h16, if_neg h17, if_neg h18, if_neg h19, if_neg h20, if_neg h21, if_pos h22, if_neg h23]
theorem gsY_X11_done_1_q59 {NF : Nat} {p0 : Int32} {p1 : Int32} {p2 : Int32} {v : Nat → Int32} {f : Nat → Nat → Int32} {w : Int64} {g : Nat → Int64} {r224 : Int32} (h0 : ¬ (p0 = 37)) (h1 : ¬ (p0 = 38)) (h2 : ¬ (p0 = 39)) (h3 : ¬ (p0 = 40)) (h4 : ¬ (p0 = 41)) (h5 : ¬ (p0 = 42)) (h6 : ¬ (p0 = 43)) (h7 : ¬ (p0 = 44)) (h8 : ¬ (p0 = 45)) (h9 : ¬ (p0 = 46)) (h10 : ¬ (p0 = 47)) (h11 : ¬ (p0 = 48)) (h12 : ¬ (p0 = 49)) (h13 : ¬ (p0 = 50)) (h14 : ¬ (p0 = 51)) (h15 : ¬ (p0 = 52)) (h16 : ¬ (p0 = 53)) (h17 : ¬ (p0 = 54)) (h18 : ¬ (p0 = 55)) (h19 : ¬ (p0 = 56)) (h20 : ¬ (p0 = 57)) (h21 : ¬ (p0 = 58)) (h22 : (p0 = 59)) (h23 : (p1 = 0)) (h24 : (p2 = 0)) (h25 : r224 = gsY_X11_truth_1 NF 0 v f w g) : gsY_X11_done_1 NF p0 p1 p2 v f w g = r224 := by
  subst h25
  simp only [gsY_X11_done_1, if_neg h0, if_neg h1, if_neg h2, if_neg h3, if_neg h4, if_neg h5, if_neg h6, if_neg h7, if_neg h8, if_neg h9, if_neg h10, if_neg h11, if_neg h12, if_neg h13, if_neg h14, if_neg h15, if_neg h16, if_neg h17, if_neg h18, if_neg h19, if_neg h20, if_neg h21, if_pos h22, if_pos h23, if_pos h24]
theorem gsY_X11_done_1_q60 {NF : Nat} {p0 : Int32} {p1 : Int32} {p2 : Int32} {v : Nat → Int32} {f : Nat → Nat → Int32} {w : Int64} {g : Nat → Int64} {r227 : Int32} (h0 : ¬ (p0 = 37)) (h1 : ¬ (p0 = 38)) (h2 : ¬ (p0 = 39)) (h3 : ¬ (p0 = 40)) (h4 : ¬ (p0 = 41)) (h5 : ¬ (p0 = 42)) (h6 : ¬ (p0 = 43)) (h7 : ¬ (p0 = 44)) (h8 : ¬ (p0 = 45)) (h9 : ¬ (p0 = 46)) (h10 : ¬ (p0 = 47)) (h11 : ¬ (p0 = 48)) (h12 : ¬ (p0 = 49)) (h13 : ¬ (p0 = 50)) (h14 : ¬ (p0 = 51)) (h15 : ¬ (p0 = 52)) (h16 : ¬ (p0 = 53)) (h17 : ¬ (p0 = 54)) (h18 : ¬ (p0 = 55)) (h19 : ¬ (p0 = 56)) (h20 : ¬ (p0 = 57)) (h21 : ¬ (p0 = 58)) (h22 : (p0 = 59)) (h23 : (p1 = 0)) (h24 : ¬ (p2 = 0)) (h25 : r227 = gsY_X11_truth_1 NF 1 v f w g) : gsY_X11_done_1 NF p0 p1 p2 v f w g = r227 := by
  subst h25
  simp only [gsY_X11_done_1, if_neg h0, if_neg h1, if_neg h2, if_neg h3, if_neg h4, if_neg h5, if_neg h6, if_neg h7, if_neg h8, if_neg h9, if_neg h10, if_neg h11, if_neg h12, if_neg h13, if_neg h14, if_neg h15, if_neg h16, if_neg h17, if_neg h18, if_neg h19, if_neg h20, if_neg h21, if_pos h22, if_pos h23, if_neg h24]
theorem gsY_X11_done_1_q61 {NF : Nat} {p0 : Int32} {p1 : Int32} {p2 : Int32} {v : Nat → Int32} {f : Nat → Nat → Int32} {w : Int64} {g : Nat → Int64} {r234 : Int32} (h0 : ¬ (p0 = 37)) (h1 : ¬ (p0 = 38)) (h2 : ¬ (p0 = 39)) (h3 : ¬ (p0 = 40)) (h4 : ¬ (p0 = 41)) (h5 : ¬ (p0 = 42)) (h6 : ¬ (p0 = 43)) (h7 : ¬ (p0 = 44)) (h8 : ¬ (p0 = 45)) (h9 : ¬ (p0 = 46)) (h10 : ¬ (p0 = 47)) (h11 : ¬ (p0 = 48)) (h12 : ¬ (p0 = 49)) (h13 : ¬ (p0 = 50)) (h14 : ¬ (p0 = 51)) (h15 : ¬ (p0 = 52)) (h16 : ¬ (p0 = 53)) (h17 : ¬ (p0 = 54)) (h18 : ¬ (p0 = 55)) (h19 : ¬ (p0 = 56)) (h20 : ¬ (p0 = 57)) (h21 : ¬ (p0 = 58)) (h22 : ¬ (p0 = 59)) (h23 : (p0 = 60)) (h24 : (p2 ≤ p1)) (h25 : r234 = gsY_X11_truth_1 NF 0 v f w g) : gsY_X11_done_1 NF p0 p1 p2 v f w g = r234 := by
  subst h25
  simp only [gsY_X11_done_1, if_neg h0, if_neg h1, if_neg h2, if_neg h3, if_neg h4, if_neg h5, if_neg h6, if_neg h7, if_neg h8, if_neg h9, if_neg h10, if_neg h11, if_neg h12, if_neg h13, if_neg h14, if_neg h15, if_neg h16, if_neg h17, if_neg h18, if_neg h19, if_neg h20, if_neg h21, if_neg h22, if_pos h23, if_pos h24]
theorem gsY_X11_done_1_q62 {NF : Nat} {p0 : Int32} {p1 : Int32} {p2 : Int32} {v : Nat → Int32} {f : Nat → Nat → Int32} {w : Int64} {g : Nat → Int64} {r239 : Int32} (h0 : ¬ (p0 = 37)) (h1 : ¬ (p0 = 38)) (h2 : ¬ (p0 = 39)) (h3 : ¬ (p0 = 40)) (h4 : ¬ (p0 = 41)) (h5 : ¬ (p0 = 42)) (h6 : ¬ (p0 = 43)) (h7 : ¬ (p0 = 44)) (h8 : ¬ (p0 = 45)) (h9 : ¬ (p0 = 46)) (h10 : ¬ (p0 = 47)) (h11 : ¬ (p0 = 48)) (h12 : ¬ (p0 = 49)) (h13 : ¬ (p0 = 50)) (h14 : ¬ (p0 = 51)) (h15 : ¬ (p0 = 52)) (h16 : ¬ (p0 = 53)) (h17 : ¬ (p0 = 54)) (h18 : ¬ (p0 = 55)) (h19 : ¬ (p0 = 56)) (h20 : ¬ (p0 = 57)) (h21 : ¬ (p0 = 58)) (h22 : ¬ (p0 = 59)) (h23 : (p0 = 60)) (h24 : ¬ (p2 ≤ p1)) (h25 : r239 = gsY_X11_truth_1 NF 1 v f w g) : gsY_X11_done_1 NF p0 p1 p2 v f w g = r239 := by
  subst h25
  simp only [gsY_X11_done_1, if_neg h0, if_neg h1, if_neg h2, if_neg h3, if_neg h4, if_neg h5, if_neg h6, if_neg h7, if_neg h8, if_neg h9, if_neg h10, if_neg h11, if_neg h12, if_neg h13, if_neg h14, if_neg h15, if_neg h16, if_neg h17, if_neg h18, if_neg h19, if_neg h20, if_neg h21, if_neg h22, if_pos h23, if_neg h24]
theorem gsY_X11_done_1_q63 {NF : Nat} {p0 : Int32} {p1 : Int32} {p2 : Int32} {v : Nat → Int32} {f : Nat → Nat → Int32} {w : Int64} {g : Nat → Int64} {r246 : Int32} (h0 : ¬ (p0 = 37)) (h1 : ¬ (p0 = 38)) (h2 : ¬ (p0 = 39)) (h3 : ¬ (p0 = 40)) (h4 : ¬ (p0 = 41)) (h5 : ¬ (p0 = 42)) (h6 : ¬ (p0 = 43)) (h7 : ¬ (p0 = 44)) (h8 : ¬ (p0 = 45)) (h9 : ¬ (p0 = 46)) (h10 : ¬ (p0 = 47)) (h11 : ¬ (p0 = 48)) (h12 : ¬ (p0 = 49)) (h13 : ¬ (p0 = 50)) (h14 : ¬ (p0 = 51)) (h15 : ¬ (p0 = 52)) (h16 : ¬ (p0 = 53)) (h17 : ¬ (p0 = 54)) (h18 : ¬ (p0 = 55)) (h19 : ¬ (p0 = 56)) (h20 : ¬ (p0 = 57)) (h21 : ¬ (p0 = 58)) (h22 : ¬ (p0 = 59)) (h23 : ¬ (p0 = 60)) (h24 : (p0 = 61)) (h25 : ¬ (p1 = p2)) (h26 : r246 = gsY_X11_truth_1 NF 0 v f w g) : gsY_X11_done_1 NF p0 p1 p2 v f w g = r246 := by
  subst h26
  simp only [gsY_X11_done_1, if_neg h0, if_neg h1, if_neg h2, if_neg h3, if_neg h4, if_neg h5, if_neg h6, if_neg h7, if_neg h8, if_neg h9, if_neg h10, if_neg h11, if_neg h12, if_neg h13, if_neg h14, if_neg h15, if_neg h16, if_neg h17, if_neg h18, if_neg h19, if_neg h20, if_neg h21, if_neg h22, if_neg h23, if_pos h24, if_neg h25]
theorem gsY_X11_done_1_q64 {NF : Nat} {p0 : Int32} {p1 : Int32} {p2 : Int32} {v : Nat → Int32} {f : Nat → Nat → Int32} {w : Int64} {g : Nat → Int64} {r251 : Int32} (h0 : ¬ (p0 = 37)) (h1 : ¬ (p0 = 38)) (h2 : ¬ (p0 = 39)) (h3 : ¬ (p0 = 40)) (h4 : ¬ (p0 = 41)) (h5 : ¬ (p0 = 42)) (h6 : ¬ (p0 = 43)) (h7 : ¬ (p0 = 44)) (h8 : ¬ (p0 = 45)) (h9 : ¬ (p0 = 46)) (h10 : ¬ (p0 = 47)) (h11 : ¬ (p0 = 48)) (h12 : ¬ (p0 = 49)) (h13 : ¬ (p0 = 50)) (h14 : ¬ (p0 = 51)) (h15 : ¬ (p0 = 52)) (h16 : ¬ (p0 = 53)) (h17 : ¬ (p0 = 54)) (h18 : ¬ (p0 = 55)) (h19 : ¬ (p0 = 56)) (h20 : ¬ (p0 = 57)) (h21 : ¬ (p0 = 58)) (h22 : ¬ (p0 = 59)) (h23 : ¬ (p0 = 60)) (h24 : (p0 = 61)) (h25 : (p1 = p2)) (h26 : r251 = gsY_X11_truth_1 NF 1 v f w g) : gsY_X11_done_1 NF p0 p1 p2 v f w g = r251 := by
  subst h26
  simp only [gsY_X11_done_1, if_neg h0, if_neg h1, if_neg h2, if_neg h3, if_neg h4, if_neg h5, if_neg h6, if_neg h7, if_neg h8, if_neg h9, if_neg h10, if_neg h11, if_neg h12, if_neg h13, if_neg h14, if_neg h15, if_neg h16, if_neg h17, if_neg h18, if_neg h19, if_neg h20, if_neg h21, if_neg h22, if_neg h23, if_pos h24, if_pos h25]
theorem gsY_X11_done_1_q65 {NF : Nat} {p0 : Int32} {p1 : Int32} {p2 : Int32} {v : Nat → Int32} {f : Nat → Nat → Int32} {w : Int64} {g : Nat → Int64} {r258 : Int32} (h0 : ¬ (p0 = 37)) (h1 : ¬ (p0 = 38)) (h2 : ¬ (p0 = 39)) (h3 : ¬ (p0 = 40)) (h4 : ¬ (p0 = 41)) (h5 : ¬ (p0 = 42)) (h6 : ¬ (p0 = 43)) (h7 : ¬ (p0 = 44)) (h8 : ¬ (p0 = 45)) (h9 : ¬ (p0 = 46)) (h10 : ¬ (p0 = 47)) (h11 : ¬ (p0 = 48)) (h12 : ¬ (p0 = 49)) (h13 : ¬ (p0 = 50)) (h14 : ¬ (p0 = 51)) (h15 : ¬ (p0 = 52)) (h16 : ¬ (p0 = 53)) (h17 : ¬ (p0 = 54)) (h18 : ¬ (p0 = 55)) (h19 : ¬ (p0 = 56)) (h20 : ¬ (p0 = 57)) (h21 : ¬ (p0 = 58)) (h22 : ¬ (p0 = 59)) (h23 : ¬ (p0 = 60)) (h24 : ¬ (p0 = 61)) (h25 : (p0 = 62)) (h26 : (p1 ≤ p2)) (h27 : r258 = gsY_X11_truth_1 NF 0 v f w g) : gsY_X11_done_1 NF p0 p1 p2 v f w g = r258 := by
  subst h27
  simp only [gsY_X11_done_1, if_neg h0, if_neg h1, if_neg h2, if_neg h3, if_neg h4, if_neg h5, if_neg h6, if_neg h7, if_neg h8, if_neg h9, if_neg h10, if_neg h11, if_neg h12, if_neg h13, if_neg h14, if_neg h15, if_neg h16, if_neg h17, if_neg h18, if_neg h19, if_neg h20, if_neg h21, if_neg h22, if_neg h23, if_neg h24, if_pos h25, if_pos h26]
theorem gsY_X11_done_1_q66 {NF : Nat} {p0 : Int32} {p1 : Int32} {p2 : Int32} {v : Nat → Int32} {f : Nat → Nat → Int32} {w : Int64} {g : Nat → Int64} {r263 : Int32} (h0 : ¬ (p0 = 37)) (h1 : ¬ (p0 = 38)) (h2 : ¬ (p0 = 39)) (h3 : ¬ (p0 = 40)) (h4 : ¬ (p0 = 41)) (h5 : ¬ (p0 = 42)) (h6 : ¬ (p0 = 43)) (h7 : ¬ (p0 = 44)) (h8 : ¬ (p0 = 45)) (h9 : ¬ (p0 = 46)) (h10 : ¬ (p0 = 47)) (h11 : ¬ (p0 = 48)) (h12 : ¬ (p0 = 49)) (h13 : ¬ (p0 = 50)) (h14 : ¬ (p0 = 51)) (h15 : ¬ (p0 = 52)) (h16 : ¬ (p0 = 53)) (h17 : ¬ (p0 = 54)) (h18 : ¬ (p0 = 55)) (h19 : ¬ (p0 = 56)) (h20 : ¬ (p0 = 57)) (h21 : ¬ (p0 = 58)) (h22 : ¬ (p0 = 59)) (h23 : ¬ (p0 = 60)) (h24 : ¬ (p0 = 61)) (h25 : (p0 = 62)) (h26 : ¬ (p1 ≤ p2)) (h27 : r263 = gsY_X11_truth_1 NF 1 v f w g) : gsY_X11_done_1 NF p0 p1 p2 v f w g = r263 := by
  subst h27
  simp only [gsY_X11_done_1, if_neg h0, if_neg h1, if_neg h2, if_neg h3, if_neg h4, if_neg h5, if_neg h6, if_neg h7, if_neg h8, if_neg h9, if_neg h10, if_neg h11, if_neg h12, if_neg h13, if_neg h14, if_neg h15, if_neg h16, if_neg h17, if_neg h18, if_neg h19, if_neg h20, if_neg h21, if_neg h22, if_neg h23, if_neg h24, if_pos h25, if_neg h26]
theorem gsY_X11_done_1_q67 {NF : Nat} {p0 : Int32} {p1 : Int32} {p2 : Int32} {v : Nat → Int32} {f : Nat → Nat → Int32} {w : Int64} {g : Nat → Int64} {r267 : Int32} (h0 : ¬ (p0 = 37)) (h1 : ¬ (p0 = 38)) (h2 : ¬ (p0 = 39)) (h3 : ¬ (p0 = 40)) (h4 : ¬ (p0 = 41)) (h5 : ¬ (p0 = 42)) (h6 : ¬ (p0 = 43)) (h7 : ¬ (p0 = 44)) (h8 : ¬ (p0 = 45)) (h9 : ¬ (p0 = 46)) (h10 : ¬ (p0 = 47)) (h11 : ¬ (p0 = 48)) (h12 : ¬ (p0 = 49)) (h13 : ¬ (p0 = 50)) (h14 : ¬ (p0 = 51)) (h15 : ¬ (p0 = 52)) (h16 : ¬ (p0 = 53)) (h17 : ¬ (p0 = 54)) (h18 : ¬ (p0 = 55)) (h19 : ¬ (p0 = 56)) (h20 : ¬ (p0 = 57)) (h21 : ¬ (p0 = 58)) (h22 : ¬ (p0 = 59)) (h23 : ¬ (p0 = 60)) (h24 : ¬ (p0 = 61)) (h25 : ¬ (p0 = 62)) (h26 : ¬ (p1 = 0)) (h27 : r267 = gsY_X11_truth_1 NF 1 v f w g) : gsY_X11_done_1 NF p0 p1 p2 v f w g = r267 := by
  subst h27
  simp only [gsY_X11_done_1, if_neg h0, if_neg h1, if_neg h2, if_neg h3, if_neg h4, if_neg h5, if_neg h6, if_neg h7, if_neg h8, if_neg h9, if_neg h10, if_neg h11, if_neg h12, if_neg h13, if_neg h14, if_neg h15, if_neg h16, if_neg h17, if_neg h18, if_neg h19, if_neg h20, if_neg h21, if_neg h22, if_neg h23, if_neg h24, if_neg h25, if_neg h26]
theorem gsY_X11_done_1_q68 {NF : Nat} {p0 : Int32} {p1 : Int32} {p2 : Int32} {v : Nat → Int32} {f : Nat → Nat → Int32} {w : Int64} {g : Nat → Int64} {r271 : Int32} (h0 : ¬ (p0 = 37)) (h1 : ¬ (p0 = 38)) (h2 : ¬ (p0 = 39)) (h3 : ¬ (p0 = 40)) (h4 : ¬ (p0 = 41)) (h5 : ¬ (p0 = 42)) (h6 : ¬ (p0 = 43)) (h7 : ¬ (p0 = 44)) (h8 : ¬ (p0 = 45)) (h9 : ¬ (p0 = 46)) (h10 : ¬ (p0 = 47)) (h11 : ¬ (p0 = 48)) (h12 : ¬ (p0 = 49)) (h13 : ¬ (p0 = 50)) (h14 : ¬ (p0 = 51)) (h15 : ¬ (p0 = 52)) (h16 : ¬ (p0 = 53)) (h17 : ¬ (p0 = 54)) (h18 : ¬ (p0 = 55)) (h19 : ¬ (p0 = 56)) (h20 : ¬ (p0 = 57)) (h21 : ¬ (p0 = 58)) (h22 : ¬ (p0 = 59)) (h23 : ¬ (p0 = 60)) (h24 : ¬ (p0 = 61)) (h25 : ¬ (p0 = 62)) (h26 : (p1 = 0)) (h27 : (p2 = 0)) (h28 : r271 = gsY_X11_truth_1 NF 0 v f w g) : gsY_X11_done_1 NF p0 p1 p2 v f w g = r271 := by
  subst h28
  simp only [gsY_X11_done_1, if_neg h0, if_neg h1, if_neg h2, if_neg h3, if_neg h4, if_neg h5, if_neg h6, if_neg h7, if_neg h8, if_neg h9, if_neg h10, if_neg h11, if_neg h12, if_neg h13, if_neg h14, if_neg h15, if_neg h16, if_neg h17, if_neg h18, if_neg h19, if_neg h20, if_neg h21, if_neg h22, if_neg h23, if_neg h24, if_neg h25, if_pos h26, if_pos h27]
theorem gsY_X11_done_1_q69 {NF : Nat} {p0 : Int32} {p1 : Int32} {p2 : Int32} {v : Nat → Int32} {f : Nat → Nat → Int32} {w : Int64} {g : Nat → Int64} {r274 : Int32} (h0 : ¬ (p0 = 37)) (h1 : ¬ (p0 = 38)) (h2 : ¬ (p0 = 39)) (h3 : ¬ (p0 = 40)) (h4 : ¬ (p0 = 41)) (h5 : ¬ (p0 = 42)) (h6 : ¬ (p0 = 43)) (h7 : ¬ (p0 = 44)) (h8 : ¬ (p0 = 45)) (h9 : ¬ (p0 = 46)) (h10 : ¬ (p0 = 47)) (h11 : ¬ (p0 = 48)) (h12 : ¬ (p0 = 49)) (h13 : ¬ (p0 = 50)) (h14 : ¬ (p0 = 51)) (h15 : ¬ (p0 = 52)) (h16 : ¬ (p0 = 53)) (h17 : ¬ (p0 = 54)) (h18 : ¬ (p0 = 55)) (h19 : ¬ (p0 = 56)) (h20 : ¬ (p0 = 57)) (h21 : ¬ (p0 = 58)) (h22 : ¬ (p0 = 59)) (h23 : ¬ (p0 = 60)) (h24 : ¬ (p0 = 61)) (h25 : ¬ (p0 = 62)) (h26 : (p1 = 0)) (h27 : ¬ (p2 = 0)) (h28 : r274 = gsY_X11_truth_1 NF 1 v f w g) : gsY_X11_done_1 NF p0 p1 p2 v f w g = r274 := by
  subst h28
  simp only [gsY_X11_done_1, if_neg h0, if_neg h1, if_neg h2, if_neg h3, if_neg h4, if_neg h5, if_neg h6, if_neg h7, if_neg h8, if_neg h9, if_neg h10, if_neg h11, if_neg h12, if_neg h13, if_neg h14, if_neg h15, if_neg h16, if_neg h17, if_neg h18, if_neg h19, if_neg h20, if_neg h21, if_neg h22, if_neg h23, if_neg h24, if_neg h25, if_pos h26, if_neg h27]
