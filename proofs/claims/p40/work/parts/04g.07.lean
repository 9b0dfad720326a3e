def gsY_X11_isIn_1 (NF : Nat) (p0 : Int32) (p1 : Int32) (p2 : Int32) (v : Nat → Int32) (f : Nat → Nat → Int32) (w : Int64) (g : Nat → Int64) : Int32 :=
  if p0 < p1 then
    0
  else
    if p2 < p0 then
      0
    else
      1
theorem gsY_X11_isIn_1_q0 {NF : Nat} {p0 : Int32} {p1 : Int32} {p2 : Int32} {v : Nat → Int32} {f : Nat → Nat → Int32} {w : Int64} {g : Nat → Int64} (h0 : (p0 < p1)) : gsY_X11_isIn_1 NF p0 p1 p2 v f w g = 0 := by
  simp only [gsY_X11_isIn_1, if_pos h0]
theorem gsY_X11_isIn_1_q1 {NF : Nat} {p0 : Int32} {p1 : Int32} {p2 : Int32} {v : Nat → Int32} {f : Nat → Nat → Int32} {w : Int64} {g : Nat → Int64} (h0 : ¬ (p0 < p1)) (h1 : (p2 < p0)) : gsY_X11_isIn_1 NF p0 p1 p2 v f w g = 0 := by
  simp only [gsY_X11_isIn_1, if_neg h0, if_pos h1]
theorem gsY_X11_isIn_1_q2 {NF : Nat} {p0 : Int32} {p1 : Int32} {p2 : Int32} {v : Nat → Int32} {f : Nat → Nat → Int32} {w : Int64} {g : Nat → Int64} (h0 : ¬ (p0 < p1)) (h1 : ¬ (p2 < p0)) : gsY_X11_isIn_1 NF p0 p1 p2 v f w g = 1 := by
  simp only [gsY_X11_isIn_1, if_neg h0, if_neg h1]
def gsY_X11_seen_1 (NF : Nat) (p1 : Int32) (p2 : Int32) (v : Nat → Int32) (f : Nat → Nat → Int32) (w : Int64) (g : Nat → Int64) : Int32 × (Nat → Int32) × (Nat → Nat → Int32) × (Int64) × (Nat → Int64) :=
  if gsY_X11_isIn_1 NF p1 0 20 v f w g = 1 then
    if (v 24) = 0 then
      ((-1), v, f, w, g)
    else
      if (v 25) = 0 then
        ((-1), v, f, w, g)
      else
        if (v 38) = 30 then
          ((-1), v, f, w, g)
        else
          let f9 : Nat → Nat → Int32 := upd2 f 30 (upd (f 30) (v 38).toNatClampNeg p1)
          let f10 : Nat → Nat → Int32 := upd2 f9 33 (upd (f9 33) (v 38).toNatClampNeg (vp_nar .boolean p2))
          let f11 : Nat → Nat → Int32 := upd2 f10 31 (upd (f10 31) (v 38).toNatClampNeg (v 39))
          let f12 : Nat → Nat → Int32 := upd2 f11 32 (upd (f11 32) (v 38).toNatClampNeg (-1))
          let t13 : Int32 := (v 38) + 1
          let t15 : Int32 := t13 - 1
          (t15, (upd v 38 t13), f12, w, g)
  else
    ((-1), v, f, w, g)
theorem gsY_X11_seen_1_q0 {NF : Nat} {p1 : Int32} {p2 : Int32} {v : Nat → Int32} {f : Nat → Nat → Int32} {w : Int64} {g : Nat → Int64} (h0 : gsY_X11_isIn_1 NF p1 0 20 v f w g = 1) (h1 : ((v 24) = 0)) : gsY_X11_seen_1 NF p1 p2 v f w g = ((-1), v, f, w, g) := by
  simp only [gsY_X11_seen_1, h0, if_pos h1, ite11, ite01, if_true, if_false]
theorem gsY_X11_seen_1_q1 {NF : Nat} {p1 : Int32} {p2 : Int32} {v : Nat → Int32} {f : Nat → Nat → Int32} {w : Int64} {g : Nat → Int64} (h0 : gsY_X11_isIn_1 NF p1 0 20 v f w g = 1) (h1 : ¬ ((v 24) = 0)) (h2 : ((v 25) = 0)) : gsY_X11_seen_1 NF p1 p2 v f w g = ((-1), v, f, w, g) := by
  simp only [gsY_X11_seen_1, h0, if_neg h1, if_pos h2, ite11, ite01, if_true, if_false]
theorem gsY_X11_seen_1_q2 {NF : Nat} {p1 : Int32} {p2 : Int32} {v : Nat → Int32} {f : Nat → Nat → Int32} {w : Int64} {g : Nat → Int64} {f9 : Nat → Nat → Int32} {f10 : Nat → Nat → Int32} {f11 : Nat → Nat → Int32} {f12 : Nat → Nat → Int32} {t13 : Int32} {t15 : Int32} (h0 : gsY_X11_isIn_1 NF p1 0 20 v f w g = 1) (h1 : ¬ ((v 24) = 0)) (h2 : ¬ ((v 25) = 0)) (h3 : ¬ ((v 38) = 30)) (h4 : f9 = upd2 f 30 (upd (f 30) (v 38).toNatClampNeg p1)) (h5 : f10 = upd2 f9 33 (upd (f9 33) (v 38).toNatClampNeg (vp_nar .boolean p2))) (h6 : f11 = upd2 f10 31 (upd (f10 31) (v 38).toNatClampNeg (v 39))) (h7 : f12 = upd2 f11 32 (upd (f11 32) (v 38).toNatClampNeg (-1))) (h8 : t13 = (v 38) + 1) (h9 : t15 = t13 - 1) : gsY_X11_seen_1 NF p1 p2 v f w g = (t15, (upd v 38 t13), f12, w, g) := by
  subst h4 h5 h6 h7 h8 h9
  simp only [gsY_X11_seen_1, h0, if_neg h1, if_neg h2, if_neg h3, ite11, ite01, if_true, if_false]
theorem gsY_X11_seen_1_q3 {NF : Nat} {p1 : Int32} {p2 : Int32} {v : Nat → Int32} {f : Nat → Nat → Int32} {w : Int64} {g : Nat → Int64} (h0 : gsY_X11_isIn_1 NF p1 0 20 v f w g = 1) (h1 : ¬ ((v 24) = 0)) (h2 : ¬ ((v 25) = 0)) (h3 : ((v 38) = 30)) : gsY_X11_seen_1 NF p1 p2 v f w g = ((-1), v, f, w, g) := by
  simp only [gsY_X11_seen_1, h0, if_neg h1, if_neg h2, if_pos h3, ite11, ite01, if_true, if_false]
theorem gsY_X11_seen_1_q4 {NF : Nat} {p1 : Int32} {p2 : Int32} {v : Nat → Int32} {f : Nat → Nat → Int32} {w : Int64} {g : Nat → Int64} (h0 : gsY_X11_isIn_1 NF p1 0 20 v f w g = 0) : gsY_X11_seen_1 NF p1 p2 v f w g = ((-1), v, f, w, g) := by
  simp only [gsY_X11_seen_1, h0, ite11, ite01, if_true, if_false]
def gsY_X11_untell_1 (NF : Nat) (p1 : Int32) (v : Nat → Int32) (f : Nat → Nat → Int32) (w : Int64) (g : Nat → Int64) : Int32 × (Nat → Int32) × (Nat → Nat → Int32) × (Int64) × (Nat → Int64) :=
  let t1 : Int32 := (v 38) - 1
  if gsY_X11_isIn_1 NF p1 0 t1 v f w g = 1 then
    let t7 : Int32 := f 32 (p1).toNatClampNeg
    if t7 < 0 then
      let f9 : Nat → Nat → Int32 := upd2 f 32 (upd (f 32) p1.toNatClampNeg (v 39))
      (1, v, f9, w, g)
    else
      (0, v, f, w, g)
  else
    (0, v, f, w, g)
theorem gsY_X11_untell_1_q0 {NF : Nat} {p1 : Int32} {v : Nat → Int32} {f : Nat → Nat → Int32} {w : Int64} {g : Nat → Int64} {t1 : Int32} {t7 : Int32} {f9 : Nat → Nat → Int32} (h0 : t1 = (v 38) - 1) (h1 : gsY_X11_isIn_1 NF p1 0 t1 v f w g = 1) (h2 : t7 = f 32 (p1).toNatClampNeg) (h3 : (t7 < 0)) (h4 : f9 = upd2 f 32 (upd (f 32) p1.toNatClampNeg (v 39))) : gsY_X11_untell_1 NF p1 v f w g = (1, v, f9, w, g) := by
  subst h0 h2 h4
  simp only [gsY_X11_untell_1, h1, if_pos h3, ite11, ite01, if_true, if_false]
theorem gsY_X11_untell_1_q1 {NF : Nat} {p1 : Int32} {v : Nat → Int32} {f : Nat → Nat → Int32} {w : Int64} {g : Nat → Int64} {t1 : Int32} {t7 : Int32} (h0 : t1 = (v 38) - 1) (h1 : gsY_X11_isIn_1 NF p1 0 t1 v f w g = 1) (h2 : t7 = f 32 (p1).toNatClampNeg) (h3 : ¬ (t7 < 0)) : gsY_X11_untell_1 NF p1 v f w g = (0, v, f, w, g) := by
  subst h0 h2
  simp only [gsY_X11_untell_1, h1, if_neg h3, ite11, ite01, if_true, if_false]
theorem gsY_X11_untell_1_q2 {NF : Nat} {p1 : Int32} {v : Nat → Int32} {f : Nat → Nat → Int32} {w : Int64} {g : Nat → Int64} {t1 : Int32} (h0 : t1 = (v 38) - 1) (h1 : gsY_X11_isIn_1 NF p1 0 t1 v f w g = 0) : gsY_X11_untell_1 NF p1 v f w g = (0, v, f, w, g) := by
  subst h0
  simp only [gsY_X11_untell_1, h1, ite11, ite01, if_true, if_false]
def gsY_X11_later_1 (NF : Nat) (p1 : Int32) (v : Nat → Int32) (f : Nat → Nat → Int32) (w : Int64) (g : Nat → Int64) : Int32 × (Nat → Int32) × (Nat → Nat → Int32) × (Int64) × (Nat → Int64) :=
  if p1 < 0 then
    ((-1), v, f, w, g)
  else
    if 1000 < p1 then
      ((-1), v, f, w, g)
    else
      let t3 : Int32 := (v 39) + p1
      if t3 ≤ 100000 then
        (t3, (upd v 39 t3), f, w, g)
      else
        ((-1), v, f, w, g)
theorem gsY_X11_later_1_q0 {NF : Nat} {p1 : Int32} {v : Nat → Int32} {f : Nat → Nat → Int32} {w : Int64} {g : Nat → Int64} (h0 : (p1 < 0)) : gsY_X11_later_1 NF p1 v f w g = ((-1), v, f, w, g) := by
  simp only [gsY_X11_later_1, if_pos h0]
theorem gsY_X11_later_1_q1 {NF : Nat} {p1 : Int32} {v : Nat → Int32} {f : Nat → Nat → Int32} {w : Int64} {g : Nat → Int64} (h0 : ¬ (p1 < 0)) (h1 : (1000 < p1)) : gsY_X11_later_1 NF p1 v f w g = ((-1), v, f, w, g) := by
  simp only [gsY_X11_later_1, if_neg h0, if_pos h1]
theorem gsY_X11_later_1_q2 {NF : Nat} {p1 : Int32} {v : Nat → Int32} {f : Nat → Nat → Int32} {w : Int64} {g : Nat → Int64} {t3 : Int32} (h0 : ¬ (p1 < 0)) (h1 : ¬ (1000 < p1)) (h2 : t3 = (v 39) + p1) (h3 : (t3 ≤ 100000)) : gsY_X11_later_1 NF p1 v f w g = (t3, (upd v 39 t3), f, w, g) := by
  subst h2
  simp only [gsY_X11_later_1, if_neg h0, if_neg h1, if_pos h3]
theorem gsY_X11_later_1_q3 {NF : Nat} {p1 : Int32} {v : Nat → Int32} {f : Nat → Nat → Int32} {w : Int64} {g : Nat → Int64} {t3 : Int32} (h0 : ¬ (p1 < 0)) (h1 : ¬ (1000 < p1)) (h2 : t3 = (v 39) + p1) (h3 : ¬ (t3 ≤ 100000)) : gsY_X11_later_1 NF p1 v f w g = ((-1), v, f, w, g) := by
  subst h2
  simp only [gsY_X11_later_1, if_neg h0, if_neg h1, if_neg h3]
def gsY_X11_power_1_L1 (NF : Nat) (p0 : Int32) (p1 : Int32) : Nat → (Int32) → (Int32) → Int32
  | 0, _, _ => 0
  | n1 + 1, l2_1, l3_1 =>
    if p1 ≤ l3_1 then
      l2_1
    else
      let t7 : Int32 := l2_1 * p0
      let t8 : Int32 := l3_1 + 1
      gsY_X11_power_1_L1 NF p0 p1 n1 t7 t8
def gsY_X11_power_1 (NF : Nat) (p0 : Int32) (p1 : Int32) (v : Nat → Int32) (f : Nat → Nat → Int32) (w : Int64) (g : Nat → Int64) : Int32 :=
  gsY_X11_power_1_L1 NF p0 p1 (4294967296 + NF) 1 0
theorem gsY_X11_power_1_q2 {NF : Nat} {p0 : Int32} {p1 : Int32} {v : Nat → Int32} {f : Nat → Nat → Int32} {w : Int64} {g : Nat → Int64}  : gsY_X11_power_1 NF p0 p1 v f w g = gsY_X11_power_1_L1 NF p0 p1 (4294967296 + NF) 1 0 := by
  simp only [gsY_X11_power_1]
theorem gsY_X11_power_1_q0 {NF : Nat} {p0 : Int32} {p1 : Int32} {n1 : Nat} {l2_1 : Int32} {l3_1 : Int32} (h0 : (p1 ≤ l3_1)) : gsY_X11_power_1_L1 NF p0 p1 (n1 + 1) l2_1 l3_1 = l2_1 := by
  simp only [gsY_X11_power_1_L1, if_pos h0]
theorem gsY_X11_power_1_q1 {NF : Nat} {p0 : Int32} {p1 : Int32} {n1 : Nat} {l2_1 : Int32} {l3_1 : Int32} {t7 : Int32} {t8 : Int32} (h0 : ¬ (p1 ≤ l3_1)) (h1 : t7 = l2_1 * p0) (h2 : t8 = l3_1 + 1) : gsY_X11_power_1_L1 NF p0 p1 (n1 + 1) l2_1 l3_1 = gsY_X11_power_1_L1 NF p0 p1 n1 t7 t8 := by
  subst h1 h2
  simp only [gsY_X11_power_1_L1, if_neg h0]
def gsY_X11_power_2 (NF : Nat) (v : Nat → Int32) (f : Nat → Nat → Int32) (w : Int64) (g : Nat → Int64) : Int32 :=
  1
theorem gsY_X11_power_2_q0 {NF : Nat} {v : Nat → Int32} {f : Nat → Nat → Int32} {w : Int64} {g : Nat → Int64}  : gsY_X11_power_2 NF v f w g = 1 := by
  simp only [gsY_X11_power_2]
def gsY_X11_divisor_1_L1 (NF : Nat) : Nat → (Int32) → (Int32) → Int32
  | 0, _, _ => 0
  | n1 + 1, l2_1, l3_1 =>
    if l3_1 ≤ 0 then
      l2_1
    else
      let t3 : Int32 := l2_1 - l2_1 / l3_1 * l3_1
      gsY_X11_divisor_1_L1 NF n1 l3_1 t3
def gsY_X11_divisor_1 (NF : Nat) (p0 : Int32) (p1 : Int32) (v : Nat → Int32) (f : Nat → Nat → Int32) (w : Int64) (g : Nat → Int64) : Int32 :=
  gsY_X11_divisor_1_L1 NF (4294967296 + NF) p0 p1
theorem gsY_X11_divisor_1_q2 {NF : Nat} {p0 : Int32} {p1 : Int32} {v : Nat → Int32} {f : Nat → Nat → Int32} {w : Int64} {g : Nat → Int64}  : gsY_X11_divisor_1 NF p0 p1 v f w g = gsY_X11_divisor_1_L1 NF (4294967296 + NF) p0 p1 := by
  simp only [gsY_X11_divisor_1]
theorem gsY_X11_divisor_1_q0 {NF : Nat} {n1 : Nat} {l2_1 : Int32} {l3_1 : Int32} (h0 : (l3_1 ≤ 0)) : gsY_X11_divisor_1_L1 NF (n1 + 1) l2_1 l3_1 = l2_1 := by
  simp only [gsY_X11_divisor_1_L1, if_pos h0]
theorem gsY_X11_divisor_1_q1 {NF : Nat} {n1 : Nat} {l2_1 : Int32} {l3_1 : Int32} {t3 : Int32} (h0 : ¬ (l3_1 ≤ 0)) (h1 : t3 = l2_1 - l2_1 / l3_1 * l3_1) : gsY_X11_divisor_1_L1 NF (n1 + 1) l2_1 l3_1 = gsY_X11_divisor_1_L1 NF n1 l3_1 t3 := by
  subst h1
  simp only [gsY_X11_divisor_1_L1, if_neg h0]
def gsY_X11_power_3 (NF : Nat) (v : Nat → Int32) (f : Nat → Nat → Int32) (w : Int64) (g : Nat → Int64) : Int32 :=
  100
theorem gsY_X11_power_3_q0 {NF : Nat} {v : Nat → Int32} {f : Nat → Nat → Int32} {w : Int64} {g : Nat → Int64}  : gsY_X11_power_3 NF v f w g = 100 := by
  simp only [gsY_X11_power_3]
def gsY_X11_power_4 (NF : Nat) (v : Nat → Int32) (f : Nat → Nat → Int32) (w : Int64) (g : Nat → Int64) : Int32 :=
  10000
theorem gsY_X11_power_4_q0 {NF : Nat} {v : Nat → Int32} {f : Nat → Nat → Int32} {w : Int64} {g : Nat → Int64}  : gsY_X11_power_4 NF v f w g = 10000 := by
  simp only [gsY_X11_power_4]
def gsY_X11_power_5 (NF : Nat) (v : Nat → Int32) (f : Nat → Nat → Int32) (w : Int64) (g : Nat → Int64) : Int32 :=
  1000000
theorem gsY_X11_power_5_q0 {NF : Nat} {v : Nat → Int32} {f : Nat → Nat → Int32} {w : Int64} {g : Nat → Int64}  : gsY_X11_power_5 NF v f w g = 1000000 := by
  simp only [gsY_X11_power_5]
def gsY_X11_power_6 (NF : Nat) (v : Nat → Int32) (f : Nat → Nat → Int32) (w : Int64) (g : Nat → Int64) : Int32 :=
  100000000
theorem gsY_X11_power_6_q0 {NF : Nat} {v : Nat → Int32} {f : Nat → Nat → Int32} {w : Int64} {g : Nat → Int64}  : gsY_X11_power_6 NF v f w g = 100000000 := by
  simp only [gsY_X11_power_6]
def gsY_X11_odds_1 (NF : Nat) (p1 : Int32) (p2 : Int32) (v : Nat → Int32) (f : Nat → Nat → Int32) (w : Int64) (g : Nat → Int64) : Int32 :=
  if gsY_X11_isIn_1 NF p1 0 4 v f w g = 1 then
    if gsY_X11_isIn_1 NF p2 0 1 v f w g = 1 then
      let t10 : Int32 := 100 - (v 29)
      let r11 : Int32 := gsY_X11_power_1 NF t10 p1 v f w g
      if p1 = 0 then
        let r14 : Int32 := gsY_X11_power_2 NF v f w g
        let r16 : Int32 := gsY_X11_divisor_1 NF r14 r11 v f w g
        if p2 = 0 then
          let t20 : Int32 := r11 / r16
          t20
        else
          let t19 : Int32 := r14 / r16
          t19
      else
        if p1 = 1 then
          let r22 : Int32 := gsY_X11_power_3 NF v f w g
          let r24 : Int32 := gsY_X11_divisor_1 NF r22 r11 v f w g
          if p2 = 0 then
            let t28 : Int32 := r11 / r24
            t28
          else
            let t27 : Int32 := r22 / r24
            t27
        else
          if p1 = 2 then
            let r30 : Int32 := gsY_X11_power_4 NF v f w g
            let r32 : Int32 := gsY_X11_divisor_1 NF r30 r11 v f w g
            if p2 = 0 then
              let t36 : Int32 := r11 / r32
              t36
            else
              let t35 : Int32 := r30 / r32
              t35
          else
            if p1 = 3 then
              let r38 : Int32 := gsY_X11_power_5 NF v f w g
              let r40 : Int32 := gsY_X11_divisor_1 NF r38 r11 v f w g
              if p2 = 0 then
                let t44 : Int32 := r11 / r40
                t44
              else
                let t43 : Int32 := r38 / r40
                t43
            else
              if p1 = 4 then
                let r46 : Int32 := gsY_X11_power_6 NF v f w g
                let r48 : Int32 := gsY_X11_divisor_1 NF r46 r11 v f w g
                if p2 = 0 then
                  let t52 : Int32 := r11 / r48
                  t52
                else
                  let t51 : Int32 := r46 / r48
                  t51
              else
                0
    else
      (-1)
  else
    (-1)
theorem gsY_X11_odds_1_q0 {NF : Nat} {p1 : Int32} {p2 : Int32} {v : Nat → Int32} {f : Nat → Nat → Int32} {w : Int64} {g : Nat → Int64} {t10 : Int32} {r11 : Int32} {r14 : Int32} {r16 : Int32} {t19 : Int32} (h0 : gsY_X11_isIn_1 NF p1 0 4 v f w g = 1) (h1 : gsY_X11_isIn_1 NF p2 0 1 v f w g = 1) (h2 : t10 = 100 - (v 29)) (h3 : r11 = gsY_X11_power_1 NF t10 p1 v f w g) (h4 : (p1 = 0)) (h5 : r14 = gsY_X11_power_2 NF v f w g) (h6 : r16 = gsY_X11_divisor_1 NF r14 r11 v f w g) (h7 : ¬ (p2 = 0)) (h8 : t19 = r14 / r16) : gsY_X11_odds_1 NF p1 p2 v f w g = t19 := by
  subst h2 h3 h5 h6 h8
  simp only [gsY_X11_odds_1, h0, h1, if_pos h4, if_neg h7, ite11, ite01, if_true, if_false]
theorem gsY_X11_odds_1_q1 {NF : Nat} {p1 : Int32} {p2 : Int32} {v : Nat → Int32} {f : Nat → Nat → Int32} {w : Int64} {g : Nat → Int64} {t10 : Int32} {r11 : Int32} {r14 : Int32} {r16 : Int32} {t20 : Int32} (h0 : gsY_X11_isIn_1 NF p1 0 4 v f w g = 1) (h1 : gsY_X11_isIn_1 NF p2 0 1 v f w g = 1) (h2 : t10 = 100 - (v 29)) (h3 : r11 = gsY_X11_power_1 NF t10 p1 v f w g) (h4 : (p1 = 0)) (h5 : r14 = gsY_X11_power_2 NF v f w g) (h6 : r16 = gsY_X11_divisor_1 NF r14 r11 v f w g) (h7 : (p2 = 0)) (h8 : t20 = r11 / r16) : gsY_X11_odds_1 NF p1 p2 v f w g = t20 := by
  subst h2 h3 h5 h6 h8
  simp only [gsY_X11_odds_1, h0, h1, if_pos h4, if_pos h7, ite11, ite01, if_true, if_false]
theorem gsY_X11_odds_1_q2 {NF : Nat} {p1 : Int32} {p2 : Int32} {v : Nat → Int32} {f : Nat → Nat → Int32} {w : Int64} {g : Nat → Int64} {t10 : Int32} {r11 : Int32} {r22 : Int32} {r24 : Int32} {t27 : Int32} (h0 : gsY_X11_isIn_1 NF p1 0 4 v f w g = 1) (h1 : gsY_X11_isIn_1 NF p2 0 1 v f w g = 1) (h2 : t10 = 100 - (v 29)) (h3 : r11 = gsY_X11_power_1 NF t10 p1 v f w g) (h4 : ¬ (p1 = 0)) (h5 : (p1 = 1)) (h6 : r22 = gsY_X11_power_3 NF v f w g) (h7 : r24 = gsY_X11_divisor_1 NF r22 r11 v f w g) (h8 : ¬ (p2 = 0)) (h9 : t27 = r22 / r24) : gsY_X11_odds_1 NF p1 p2 v f w g = t27 := by
  subst h2 h3 h6 h7 h9
  simp only [gsY_X11_odds_1, h0, h1, if_neg h4, if_pos h5, if_neg h8, ite11, ite01, if_true, if_false]
theorem gsY_X11_odds_1_q3 {NF : Nat} {p1 : Int32} {p2 : Int32} {v : Nat → Int32} {f : Nat → Nat → Int32} {w : Int64} {g : Nat → Int64} {t10 : Int32} {r11 : Int32} {r22 : Int32} {r24 : Int32} {t28 : Int32} (h0 : gsY_X11_isIn_1 NF p1 0 4 v f w g = 1) (h1 : gsY_X11_isIn_1 NF p2 0 1 v f w g = 1) (h2 : t10 = 100 - (v 29)) (h3 : r11 = gsY_X11_power_1 NF t10 p1 v f w g) (h4 : ¬ (p1 = 0)) (h5 : (p1 = 1)) (h6 : r22 = gsY_X11_power_3 NF v f w g) (h7 : r24 = gsY_X11_divisor_1 NF r22 r11 v f w g) (h8 : (p2 = 0)) (h9 : t28 = r11 / r24) : gsY_X11_odds_1 NF p1 p2 v f w g = t28 := by
  subst h2 h3 h6 h7 h9
  simp only [gsY_X11_odds_1, h0, h1, if_neg h4, if_pos h5, if_pos h8, ite11, ite01, if_true, if_false]
theorem gsY_X11_odds_1_q4 {NF : Nat} {p1 : Int32} {p2 : Int32} {v : Nat → Int32} {f : Nat → Nat → Int32} {w : Int64} {g : Nat → Int64} {t10 : Int32} {r11 : Int32} {r30 : Int32} {r32 : Int32} {t35 : Int32} (h0 : gsY_X11_isIn_1 NF p1 0 4 v f w g = 1) (h1 : gsY_X11_isIn_1 NF p2 0 1 v f w g = 1) (h2 : t10 = 100 - (v 29)) (h3 : r11 = gsY_X11_power_1 NF t10 p1 v f w g) (h4 : ¬ (p1 = 0)) (h5 : ¬ (p1 = 1)) (h6 : (p1 = 2)) (h7 : r30 = gsY_X11_power_4 NF v f w g) (h8 : r32 = gsY_X11_divisor_1 NF r30 r11 v f w g) (h9 : ¬ (p2 = 0)) (h10 : t35 = r30 / r32) : gsY_X11_odds_1 NF p1 p2 v f w g = t35 := by
  subst h2 h3 h7 h8 h10
  simp only [gsY_X11_odds_1, h0, h1, if_neg h4, if_neg h5, if_pos h6, if_neg h9, ite11, ite01, if_true, if_false]
theorem gsY_X11_odds_1_q5 {NF : Nat} {p1 : Int32} {p2 : Int32} {v : Nat → Int32} {f : Nat → Nat → Int32} {w : Int64} {g : Nat → Int64} {t10 : Int32} {r11 : Int32} {r30 : Int32} {r32 : Int32} {t36 : Int32} (h0 : gsY_X11_isIn_1 NF p1 0 4 v f w g = 1) (h1 : gsY_X11_isIn_1 NF p2 0 1 v f w g = 1) (h2 : t10 = 100 - (v 29)) (h3 : r11 = gsY_X11_power_1 NF t10 p1 v f w g) (h4 : ¬ (p1 = 0)) (h5 : ¬ (p1 = 1)) (h6 : (p1 = 2)) (h7 : r30 = gsY_X11_power_4 NF v f w g) (h8 : r32 = gsY_X11_divisor_1 NF r30 r11 v f w g) (h9 : (p2 = 0)) (h10 : t36 = r11 / r32) : gsY_X11_odds_1 NF p1 p2 v f w g = t36 := by
  subst h2 h3 h7 h8 h10
  simp only [gsY_X11_odds_1, h0, h1, if_neg h4, if_neg h5, if_pos h6, if_pos h9, ite11, ite01, if_true, if_false]
theorem gsY_X11_odds_1_q6 {NF : Nat} {p1 : Int32} {p2 : Int32} {v : Nat → Int32} {f : Nat → Nat → Int32} {w : Int64} {g : Nat → Int64} {t10 : Int32} {r11 : Int32} {r38 : Int32} {r40 : Int32} {t43 : Int32} (h0 : gsY_X11_isIn_1 NF p1 0 4 v f w g = 1) (h1 : gsY_X11_isIn_1 NF p2 0 1 v f w g = 1) (h2 : t10 = 100 - (v 29)) (h3 : r11 = gsY_X11_power_1 NF t10 p1 v f w g) (h4 : ¬ (p1 = 0)) (h5 : ¬ (p1 = 1)) (h6 : ¬ (p1 = 2)) (h7 : (p1 = 3)) (h8 : r38 = gsY_X11_power_5 NF v f w g) (h9 : r40 = gsY_X11_divisor_1 NF r38 r11 v f w g) (h10 : ¬ (p2 = 0)) (h11 : t43 = r38 / r40) : gsY_X11_odds_1 NF p1 p2 v f w g = t43 := by
  subst h2 h3 h8 h9 h11
  simp only [gsY_X11_odds_1, h0, h1, if_neg h4, if_neg h5, if_neg h6, if_pos h7, if_neg h10, ite11, ite01, if_true, if_false]
theorem gsY_X11_odds_1_q7 {NF : Nat} {p1 : Int32} {p2 : Int32} {v : Nat → Int32} {f : Nat → Nat → Int32} {w : Int64} {g : Nat → Int64} {t10 : Int32} {r11 : Int32} {r38 : Int32} {r40 : Int32} {t44 : Int32} (h0 : gsY_X11_isIn_1 NF p1 0 4 v f w g = 1) (h1 : gsY_X11_isIn_1 NF p2 0 1 v f w g = 1) (h2 : t10 = 100 - (v 29)) (h3 : r11 = gsY_X11_power_1 NF t10 p1 v f w g) (h4 : ¬ (p1 = 0)) (h5 : ¬ (p1 = 1)) (h6 : ¬ (p1 = 2)) (h7 : (p1 = 3)) (h8 : r38 = gsY_X11_power_5 NF v f w g) (h9 : r40 = gsY_X11_divisor_1 NF r38 r11 v f w g) (h10 : (p2 = 0)) (h11 : t44 = r11 / r40) : gsY_X11_odds_1 NF p1 p2 v f w g = t44 := by
  subst h2 h3 h8 h9 h11
  simp only [gsY_X11_odds_1, h0, h1, if_neg h4, if_neg h5, if_neg h6, if_pos h7, if_pos h10, ite11, ite01, if_true, if_false]
theorem gsY_X11_odds_1_q8 {NF : Nat} {p1 : Int32} {p2 : Int32} {v : Nat → Int32} {f : Nat → Nat → Int32} {w : Int64} {g : Nat → Int64} {t10 : Int32} {r11 : Int32} {r46 : Int32} {r48 : Int32} {t51 : Int32} (h0 : gsY_X11_isIn_1 NF p1 0 4 v f w g = 1) (h1 : gsY_X11_isIn_1 NF p2 0 1 v f w g = 1) (h2 : t10 = 100 - (v 29)) (h3 : r11 = gsY_X11_power_1 NF t10 p1 v f w g) (h4 : ¬ (p1 = 0)) (h5 : ¬ (p1 = 1)) (h6 : ¬ (p1 = 2)) (h7 : ¬ (p1 = 3)) (h8 : (p1 = 4)) (h9 : r46 = gsY_X11_power_6 NF v f w g) (h10 : r48 = gsY_X11_divisor_1 NF r46 r11 v f w g) (h11 : ¬ (p2 = 0)) (h12 : t51 = r46 / r48) : gsY_X11_odds_1 NF p1 p2 v f w g = t51 := by
  subst h2 h3 h9 h10 h12
  simp only [gsY_X11_odds_1, h0, h1, if_neg h4, if_neg h5, if_neg h6, if_neg h7, if_pos h8, if_neg h11, ite11, ite01, if_true, if_false]
theorem gsY_X11_odds_1_q9 {NF : Nat} {p1 : Int32} {p2 : Int32} {v : Nat → Int32} {f : Nat → Nat → Int32} {w : Int64} {g : Nat → Int64} {t10 : Int32} {r11 : Int32} {r46 : Int32} {r48 : Int32} {t52 : Int32} (h0 : gsY_X11_isIn_1 NF p1 0 4 v f w g = 1) (h1 : gsY_X11_isIn_1 NF p2 0 1 v f w g = 1) (h2 : t10 = 100 - (v 29)) (h3 : r11 = gsY_X11_power_1 NF t10 p1 v f w g) (h4 : ¬ (p1 = 0)) (h5 : ¬ (p1 = 1)) (h6 : ¬ (p1 = 2)) (h7 : ¬ (p1 = 3)) (h8 : (p1 = 4)) (h9 : r46 = gsY_X11_power_6 NF v f w g) (h10 : r48 = gsY_X11_divisor_1 NF r46 r11 v f w g) (h11 : (p2 = 0)) (h12 : t52 = r11 / r48) : gsY_X11_odds_1 NF p1 p2 v f w g = t52 := by
  subst h2 h3 h9 h10 h12
  simp only [gsY_X11_odds_1, h0, h1, if_neg h4, if_neg h5, if_neg h6, if_neg h7, if_pos h8, if_pos h11, ite11, ite01, if_true, if_false]
theorem gsY_X11_odds_1_q10 {NF : Nat} {p1 : Int32} {p2 : Int32} {v : Nat → Int32} {f : Nat → Nat → Int32} {w : Int64} {g : Nat → Int64} (h0 : gsY_X11_isIn_1 NF p1 0 4 v f w g = 1) (h1 : gsY_X11_isIn_1 NF p2 0 1 v f w g = 0) : gsY_X11_odds_1 NF p1 p2 v f w g = (-1) := by
  simp only [gsY_X11_odds_1, h0, h1, ite11, ite01, if_true, if_false]
theorem gsY_X11_odds_1_q11 {NF : Nat} {p1 : Int32} {p2 : Int32} {v : Nat → Int32} {f : Nat → Nat → Int32} {w : Int64} {g : Nat → Int64} (h0 : gsY_X11_isIn_1 NF p1 0 4 v f w g = 0) : gsY_X11_odds_1 NF p1 p2 v f w g = (-1) := by
  simp only [gsY_X11_odds_1, h0, ite11, ite01, if_true, if_false]
