def gsX_X1_manWide_1 (NF : Nat) (p1 : Int32) (v : Nat → Int32) (f : Nat → Nat → Int32) : Int32 :=
  if gsX_X7_hasMan_1 NF p1 v f = 1 then
    let t4 : Int32 := f 15 (p1).toNatClampNeg
    t4
  else
    0
theorem gsX_X1_manWide_1_q0 {NF : Nat} {p1 : Int32} {v : Nat → Int32} {f : Nat → Nat → Int32} {t4 : Int32} (h0 : gsX_X7_hasMan_1 NF p1 v f = 1) (h1 : t4 = f 15 (p1).toNatClampNeg) : gsX_X1_manWide_1 NF p1 v f = t4 := by
  subst h1
  simp only [gsX_X1_manWide_1, h0, ite11, ite01, if_true, if_false]
theorem gsX_X1_manWide_1_q1 {NF : Nat} {p1 : Int32} {v : Nat → Int32} {f : Nat → Nat → Int32} (h0 : gsX_X7_hasMan_1 NF p1 v f = 0) : gsX_X1_manWide_1 NF p1 v f = 0 := by
  simp only [gsX_X1_manWide_1, h0, ite11, ite01, if_true, if_false]
def gsX_X1_part_1 (NF : Nat) (p1 : Int32) (p2 : Int32) (v : Nat → Int32) (f : Nat → Nat → Int32) : Int32 :=
  if gsX_X7_hasCoat_1 NF p2 v f = 1 then
    if p1 < 0 then
      0
    else
      if 5 ≤ p1 then
        0
      else
        let t6 : Int32 := p1 * 6
        let t8 : Int32 := 12 + t6
        let t10 : Int32 := t8 + p2
        let t13 : Int32 := f 15 (t10).toNatClampNeg
        t13
  else
    0
theorem gsX_X1_part_1_q0 {NF : Nat} {p1 : Int32} {p2 : Int32} {v : Nat → Int32} {f : Nat → Nat → Int32} (h0 : gsX_X7_hasCoat_1 NF p2 v f = 1) (h1 : (p1 < 0)) : gsX_X1_part_1 NF p1 p2 v f = 0 := by
  simp only [gsX_X1_part_1, h0, if_pos h1, ite11, ite01, if_true, if_false]
theorem gsX_X1_part_1_q1 {NF : Nat} {p1 : Int32} {p2 : Int32} {v : Nat → Int32} {f : Nat → Nat → Int32} (h0 : gsX_X7_hasCoat_1 NF p2 v f = 1) (h1 : ¬ (p1 < 0)) (h2 : (5 ≤ p1)) : gsX_X1_part_1 NF p1 p2 v f = 0 := by
  simp only [gsX_X1_part_1, h0, if_neg h1, if_pos h2, ite11, ite01, if_true, if_false]
theorem gsX_X1_part_1_q2 {NF : Nat} {p1 : Int32} {p2 : Int32} {v : Nat → Int32} {f : Nat → Nat → Int32} {t6 : Int32} {t8 : Int32} {t10 : Int32} {t13 : Int32} (h0 : gsX_X7_hasCoat_1 NF p2 v f = 1) (h1 : ¬ (p1 < 0)) (h2 : ¬ (5 ≤ p1)) (h3 : t6 = p1 * 6) (h4 : t8 = 12 + t6) (h5 : t10 = t8 + p2) (h6 : t13 = f 15 (t10).toNatClampNeg) : gsX_X1_part_1 NF p1 p2 v f = t13 := by
  subst h3 h4 h5 h6
  simp only [gsX_X1_part_1, h0, if_neg h1, if_neg h2, ite11, ite01, if_true, if_false]
theorem gsX_X1_part_1_q3 {NF : Nat} {p1 : Int32} {p2 : Int32} {v : Nat → Int32} {f : Nat → Nat → Int32} (h0 : gsX_X7_hasCoat_1 NF p2 v f = 0) : gsX_X1_part_1 NF p1 p2 v f = 0 := by
  simp only [gsX_X1_part_1, h0, ite11, ite01, if_true, if_false]
def gsX_X1_today_1 (NF : Nat) (v : Nat → Int32) (f : Nat → Nat → Int32) : Int32 :=
  let t1 : Int32 := f 15 (42 : Int32).toNatClampNeg
  t1
theorem gsX_X1_today_1_q0 {NF : Nat} {v : Nat → Int32} {f : Nat → Nat → Int32} {t1 : Int32} (h0 : t1 = f 15 (42 : Int32).toNatClampNeg) : gsX_X1_today_1 NF v f = t1 := by
  subst h0
  simp only [gsX_X1_today_1]
def gsX_X4_joined_1 (NF : Nat) (p0 : Int32) (p1 : Int32) (p2 : Int32) (v : Nat → Int32) (f : Nat → Nat → Int32) : Int32 :=
  if p0 = 37 then
    if p2 = 0 then
      0
    else
      let t3 : Int32 := p1 - p1 / p2 * p2
      t3
  else
    if p0 = 42 then
      let t5 : Int32 := p1 * p2
      t5
    else
      if p0 = 43 then
        let t7 : Int32 := p1 + p2
        t7
      else
        if p0 = 45 then
          let t9 : Int32 := p1 - p2
          t9
        else
          if p0 = 47 then
            if p2 = 0 then
              0
            else
              let t12 : Int32 := p1 / p2
              t12
          else
            if p0 = 60 then
              if p2 ≤ p1 then
                0
              else
                1
            else
              if p0 = 61 then
                if p1 = p2 then
                  1
                else
                  0
              else
                if p0 = 62 then
                  if p1 ≤ p2 then
                    0
                  else
                    1
                else
                  if p0 = 113 then
                    if p1 = 0 then
                      if p2 = 0 then
                        0
                      else
                        1
                    else
                      1
                  else
                    if p0 = 114 then
                      if p1 = 0 then
                        0
                      else
                        if p2 = 0 then
                          0
                        else
                          1
                    else
                      0
theorem gsX_X4_joined_1_q0 {NF : Nat} {p0 : Int32} {p1 : Int32} {p2 : Int32} {v : Nat → Int32} {f : Nat → Nat → Int32} {t3 : Int32} (h0 : (p0 = 37)) (h1 : ¬ (p2 = 0)) (h2 : t3 = p1 - p1 / p2 * p2) : gsX_X4_joined_1 NF p0 p1 p2 v f = t3 := by
  subst h2
  simp only [gsX_X4_joined_1, if_pos h0, if_neg h1]
theorem gsX_X4_joined_1_q1 {NF : Nat} {p0 : Int32} {p1 : Int32} {p2 : Int32} {v : Nat → Int32} {f : Nat → Nat → Int32} (h0 : (p0 = 37)) (h1 : (p2 = 0)) : gsX_X4_joined_1 NF p0 p1 p2 v f = 0 := by
  simp only [gsX_X4_joined_1, if_pos h0, if_pos h1]
theorem gsX_X4_joined_1_q2 {NF : Nat} {p0 : Int32} {p1 : Int32} {p2 : Int32} {v : Nat → Int32} {f : Nat → Nat → Int32} {t5 : Int32} (h0 : ¬ (p0 = 37)) (h1 : (p0 = 42)) (h2 : t5 = p1 * p2) : gsX_X4_joined_1 NF p0 p1 p2 v f = t5 := by
  subst h2
  simp only [gsX_X4_joined_1, if_neg h0, if_pos h1]
theorem gsX_X4_joined_1_q3 {NF : Nat} {p0 : Int32} {p1 : Int32} {p2 : Int32} {v : Nat → Int32} {f : Nat → Nat → Int32} {t7 : Int32} (h0 : ¬ (p0 = 37)) (h1 : ¬ (p0 = 42)) (h2 : (p0 = 43)) (h3 : t7 = p1 + p2) : gsX_X4_joined_1 NF p0 p1 p2 v f = t7 := by
  subst h3
  simp only [gsX_X4_joined_1, if_neg h0, if_neg h1, if_pos h2]
theorem gsX_X4_joined_1_q4 {NF : Nat} {p0 : Int32} {p1 : Int32} {p2 : Int32} {v : Nat → Int32} {f : Nat → Nat → Int32} {t9 : Int32} (h0 : ¬ (p0 = 37)) (h1 : ¬ (p0 = 42)) (h2 : ¬ (p0 = 43)) (h3 : (p0 = 45)) (h4 : t9 = p1 - p2) : gsX_X4_joined_1 NF p0 p1 p2 v f = t9 := by
  subst h4
  simp only [gsX_X4_joined_1, if_neg h0, if_neg h1, if_neg h2, if_pos h3]
theorem gsX_X4_joined_1_q5 {NF : Nat} {p0 : Int32} {p1 : Int32} {p2 : Int32} {v : Nat → Int32} {f : Nat → Nat → Int32} {t12 : Int32} (h0 : ¬ (p0 = 37)) (h1 : ¬ (p0 = 42)) (h2 : ¬ (p0 = 43)) (h3 : ¬ (p0 = 45)) (h4 : (p0 = 47)) (h5 : ¬ (p2 = 0)) (h6 : t12 = p1 / p2) : gsX_X4_joined_1 NF p0 p1 p2 v f = t12 := by
  subst h6
  simp only [gsX_X4_joined_1, if_neg h0, if_neg h1, if_neg h2, if_neg h3, if_pos h4, if_neg h5]
theorem gsX_X4_joined_1_q6 {NF : Nat} {p0 : Int32} {p1 : Int32} {p2 : Int32} {v : Nat → Int32} {f : Nat → Nat → Int32} (h0 : ¬ (p0 = 37)) (h1 : ¬ (p0 = 42)) (h2 : ¬ (p0 = 43)) (h3 : ¬ (p0 = 45)) (h4 : (p0 = 47)) (h5 : (p2 = 0)) : gsX_X4_joined_1 NF p0 p1 p2 v f = 0 := by
  simp only [gsX_X4_joined_1, if_neg h0, if_neg h1, if_neg h2, if_neg h3, if_pos h4, if_pos h5]
theorem gsX_X4_joined_1_q7 {NF : Nat} {p0 : Int32} {p1 : Int32} {p2 : Int32} {v : Nat → Int32} {f : Nat → Nat → Int32} (h0 : ¬ (p0 = 37)) (h1 : ¬ (p0 = 42)) (h2 : ¬ (p0 = 43)) (h3 : ¬ (p0 = 45)) (h4 : ¬ (p0 = 47)) (h5 : (p0 = 60)) (h6 : (p2 ≤ p1)) : gsX_X4_joined_1 NF p0 p1 p2 v f = 0 := by
  simp only [gsX_X4_joined_1, if_neg h0, if_neg h1, if_neg h2, if_neg h3, if_neg h4, if_pos h5, if_pos h6]
theorem gsX_X4_joined_1_q8 {NF : Nat} {p0 : Int32} {p1 : Int32} {p2 : Int32} {v : Nat → Int32} {f : Nat → Nat → Int32} (h0 : ¬ (p0 = 37)) (h1 : ¬ (p0 = 42)) (h2 : ¬ (p0 = 43)) (h3 : ¬ (p0 = 45)) (h4 : ¬ (p0 = 47)) (h5 : (p0 = 60)) (h6 : ¬ (p2 ≤ p1)) : gsX_X4_joined_1 NF p0 p1 p2 v f = 1 := by
  simp only [gsX_X4_joined_1, if_neg h0, if_neg h1, if_neg h2, if_neg h3, if_neg h4, if_pos h5, if_neg h6]
theorem gsX_X4_joined_1_q9 {NF : Nat} {p0 : Int32} {p1 : Int32} {p2 : Int32} {v : Nat → Int32} {f : Nat → Nat → Int32} (h0 : ¬ (p0 = 37)) (h1 : ¬ (p0 = 42)) (h2 : ¬ (p0 = 43)) (h3 : ¬ (p0 = 45)) (h4 : ¬ (p0 = 47)) (h5 : ¬ (p0 = 60)) (h6 : (p0 = 61)) (h7 : ¬ (p1 = p2)) : gsX_X4_joined_1 NF p0 p1 p2 v f = 0 := by
  simp only [gsX_X4_joined_1, if_neg h0, if_neg h1, if_neg h2, if_neg h3, if_neg h4, if_neg h5, if_pos h6, if_neg h7]
theorem gsX_X4_joined_1_q10 {NF : Nat} {p0 : Int32} {p1 : Int32} {p2 : Int32} {v : Nat → Int32} {f : Nat → Nat → Int32} (h0 : ¬ (p0 = 37)) (h1 : ¬ (p0 = 42)) (h2 : ¬ (p0 = 43)) (h3 : ¬ (p0 = 45)) (h4 : ¬ (p0 = 47)) (h5 : ¬ (p0 = 60)) (h6 : (p0 = 61)) (h7 : (p1 = p2)) : gsX_X4_joined_1 NF p0 p1 p2 v f = 1 := by
  simp only [gsX_X4_joined_1, if_neg h0, if_neg h1, if_neg h2, if_neg h3, if_neg h4, if_neg h5, if_pos h6, if_pos h7]
theorem gsX_X4_joined_1_q11 {NF : Nat} {p0 : Int32} {p1 : Int32} {p2 : Int32} {v : Nat → Int32} {f : Nat → Nat → Int32} (h0 : ¬ (p0 = 37)) (h1 : ¬ (p0 = 42)) (h2 : ¬ (p0 = 43)) (h3 : ¬ (p0 = 45)) (h4 : ¬ (p0 = 47)) (h5 : ¬ (p0 = 60)) (h6 : ¬ (p0 = 61)) (h7 : (p0 = 62)) (h8 : (p1 ≤ p2)) : gsX_X4_joined_1 NF p0 p1 p2 v f = 0 := by
  simp only [gsX_X4_joined_1, if_neg h0, if_neg h1, if_neg h2, if_neg h3, if_neg h4, if_neg h5, if_neg h6, if_pos h7, if_pos h8]
theorem gsX_X4_joined_1_q12 {NF : Nat} {p0 : Int32} {p1 : Int32} {p2 : Int32} {v : Nat → Int32} {f : Nat → Nat → Int32} (h0 : ¬ (p0 = 37)) (h1 : ¬ (p0 = 42)) (h2 : ¬ (p0 = 43)) (h3 : ¬ (p0 = 45)) (h4 : ¬ (p0 = 47)) (h5 : ¬ (p0 = 60)) (h6 : ¬ (p0 = 61)) (h7 : (p0 = 62)) (h8 : ¬ (p1 ≤ p2)) : gsX_X4_joined_1 NF p0 p1 p2 v f = 1 := by
  simp only [gsX_X4_joined_1, if_neg h0, if_neg h1, if_neg h2, if_neg h3, if_neg h4, if_neg h5, if_neg h6, if_pos h7, if_neg h8]
theorem gsX_X4_joined_1_q13 {NF : Nat} {p0 : Int32} {p1 : Int32} {p2 : Int32} {v : Nat → Int32} {f : Nat → Nat → Int32} (h0 : ¬ (p0 = 37)) (h1 : ¬ (p0 = 42)) (h2 : ¬ (p0 = 43)) (h3 : ¬ (p0 = 45)) (h4 : ¬ (p0 = 47)) (h5 : ¬ (p0 = 60)) (h6 : ¬ (p0 = 61)) (h7 : ¬ (p0 = 62)) (h8 : (p0 = 113)) (h9 : ¬ (p1 = 0)) : gsX_X4_joined_1 NF p0 p1 p2 v f = 1 := by
  simp only [gsX_X4_joined_1, if_neg h0, if_neg h1, if_neg h2, if_neg h3, if_neg h4, if_neg h5, if_neg h6, if_neg h7, if_pos h8, if_neg h9]
theorem gsX_X4_joined_1_q14 {NF : Nat} {p0 : Int32} {p1 : Int32} {p2 : Int32} {v : Nat → Int32} {f : Nat → Nat → Int32} (h0 : ¬ (p0 = 37)) (h1 : ¬ (p0 = 42)) (h2 : ¬ (p0 = 43)) (h3 : ¬ (p0 = 45)) (h4 : ¬ (p0 = 47)) (h5 : ¬ (p0 = 60)) (h6 : ¬ (p0 = 61)) (h7 : ¬ (p0 = 62)) (h8 : (p0 = 113)) (h9 : (p1 = 0)) (h10 : (p2 = 0)) : gsX_X4_joined_1 NF p0 p1 p2 v f = 0 := by
  simp only [gsX_X4_joined_1, if_neg h0, if_neg h1, if_neg h2, if_neg h3, if_neg h4, if_neg h5, if_neg h6, if_neg h7, if_pos h8, if_pos h9, if_pos h10]
theorem gsX_X4_joined_1_q15 {NF : Nat} {p0 : Int32} {p1 : Int32} {p2 : Int32} {v : Nat → Int32} {f : Nat → Nat → Int32} (h0 : ¬ (p0 = 37)) (h1 : ¬ (p0 = 42)) (h2 : ¬ (p0 = 43)) (h3 : ¬ (p0 = 45)) (h4 : ¬ (p0 = 47)) (h5 : ¬ (p0 = 60)) (h6 : ¬ (p0 = 61)) (h7 : ¬ (p0 = 62)) (h8 : (p0 = 113)) (h9 : (p1 = 0)) (h10 : ¬ (p2 = 0)) : gsX_X4_joined_1 NF p0 p1 p2 v f = 1 := by
  simp only [gsX_X4_joined_1, if_neg h0, if_neg h1, if_neg h2, if_neg h3, if_neg h4, if_neg h5, if_neg h6, if_neg h7, if_pos h8, if_pos h9, if_neg h10]
theorem gsX_X4_joined_1_q16 {NF : Nat} {p0 : Int32} {p1 : Int32} {p2 : Int32} {v : Nat → Int32} {f : Nat → Nat → Int32} (h0 : ¬ (p0 = 37)) (h1 : ¬ (p0 = 42)) (h2 : ¬ (p0 = 43)) (h3 : ¬ (p0 = 45)) (h4 : ¬ (p0 = 47)) (h5 : ¬ (p0 = 60)) (h6 : ¬ (p0 = 61)) (h7 : ¬ (p0 = 62)) (h8 : ¬ (p0 = 113)) (h9 : (p0 = 114)) (h10 : (p1 = 0)) : gsX_X4_joined_1 NF p0 p1 p2 v f = 0 := by
  simp only [gsX_X4_joined_1, if_neg h0, if_neg h1, if_neg h2, if_neg h3, if_neg h4, if_neg h5, if_neg h6, if_neg h7, if_neg h8, if_pos h9, if_pos h10]
theorem gsX_X4_joined_1_q17 {NF : Nat} {p0 : Int32} {p1 : Int32} {p2 : Int32} {v : Nat → Int32} {f : Nat → Nat → Int32} (h0 : ¬ (p0 = 37)) (h1 : ¬ (p0 = 42)) (h2 : ¬ (p0 = 43)) (h3 : ¬ (p0 = 45)) (h4 : ¬ (p0 = 47)) (h5 : ¬ (p0 = 60)) (h6 : ¬ (p0 = 61)) (h7 : ¬ (p0 = 62)) (h8 : ¬ (p0 = 113)) (h9 : (p0 = 114)) (h10 : ¬ (p1 = 0)) (h11 : (p2 = 0)) : gsX_X4_joined_1 NF p0 p1 p2 v f = 0 := by
  simp only [gsX_X4_joined_1, if_neg h0, if_neg h1, if_neg h2, if_neg h3, if_neg h4, if_neg h5, if_neg h6, if_neg h7, if_neg h8, if_pos h9, if_neg h10, if_pos h11]
theorem gsX_X4_joined_1_q18 {NF : Nat} {p0 : Int32} {p1 : Int32} {p2 : Int32} {v : Nat → Int32} {f : Nat → Nat → Int32} (h0 : ¬ (p0 = 37)) (h1 : ¬ (p0 = 42)) (h2 : ¬ (p0 = 43)) (h3 : ¬ (p0 = 45)) (h4 : ¬ (p0 = 47)) (h5 : ¬ (p0 = 60)) (h6 : ¬ (p0 = 61)) (h7 : ¬ (p0 = 62)) (h8 : ¬ (p0 = 113)) (h9 : (p0 = 114)) (h10 : ¬ (p1 = 0)) (h11 : ¬ (p2 = 0)) : gsX_X4_joined_1 NF p0 p1 p2 v f = 1 := by
  simp only [gsX_X4_joined_1, if_neg h0, if_neg h1, if_neg h2, if_neg h3, if_neg h4, if_neg h5, if_neg h6, if_neg h7, if_neg h8, if_pos h9, if_neg h10, if_neg h11]
theorem gsX_X4_joined_1_q19 {NF : Nat} {p0 : Int32} {p1 : Int32} {p2 : Int32} {v : Nat → Int32} {f : Nat → Nat → Int32} (h0 : ¬ (p0 = 37)) (h1 : ¬ (p0 = 42)) (h2 : ¬ (p0 = 43)) (h3 : ¬ (p0 = 45)) (h4 : ¬ (p0 = 47)) (h5 : ¬ (p0 = 60)) (h6 : ¬ (p0 = 61)) (h7 : ¬ (p0 = 62)) (h8 : ¬ (p0 = 113)) (h9 : ¬ (p0 = 114)) : gsX_X4_joined_1 NF p0 p1 p2 v f = 0 := by
  simp only [gsX_X4_joined_1, if_neg h0, if_neg h1, if_neg h2, if_neg h3, if_neg h4, if_neg h5, if_neg h6, if_neg h7, if_neg h8, if_neg h9]
def gsX_X4_worth_1_L16 (NF : Nat) : Nat → (Int32) → (Int32) → (Nat → Int32) → (Nat → Nat → Int32) → Int32 × (Nat → Int32) × (Nat → Nat → Int32)
  | 0, _, _, _, _ => (0, (fun _ => 0), (fun _ _ => 0))
  | n16 + 1, l7_16, l8_16, v16, f16 =>
    if (v16 18) ≤ l8_16 then
      let t20 : Int32 := f16 13 (0 : Int32).toNatClampNeg
      let t21 : Int32 := if t20 < (999 : Int32) then t20 else (999 : Int32)
      let t22 : Int32 := if (0 : Int32) < t21 then t21 else (0 : Int32)
      (t22, v16, f16)
    else
      if 300 ≤ l8_16 then
        let t26 : Int32 := f16 13 (0 : Int32).toNatClampNeg
        let t27 : Int32 := if t26 < (999 : Int32) then t26 else (999 : Int32)
        let t28 : Int32 := if (0 : Int32) < t27 then t27 else (0 : Int32)
        (t28, v16, f16)
      else
        let t29 : Int32 := f16 11 (l8_16).toNatClampNeg
        if t29 = 2 then
          if 30 ≤ l7_16 then
            let t32 : Int32 := l8_16 + 1
            gsX_X4_worth_1_L16 NF n16 l7_16 t32 v16 f16
          else
            if t29 = 2 then
              let t45 : Int32 := f16 12 (l8_16).toNatClampNeg
              let f46 : Nat → Nat → Int32 := upd2 f16 13 (upd (f16 13) l7_16.toNatClampNeg t45)
              let t47 : Int32 := l7_16 + 1
              let t49 : Int32 := l8_16 + 1
              gsX_X4_worth_1_L16 NF n16 t47 t49 v16 f46
            else
              let t36 : Int32 := t29 - 116
              let t38 : Int32 := f16 14 (t36).toNatClampNeg
              let f39 : Nat → Nat → Int32 := upd2 f16 13 (upd (f16 13) l7_16.toNatClampNeg t38)
              let t40 : Int32 := l7_16 + 1
              let t42 : Int32 := l8_16 + 1
              gsX_X4_worth_1_L16 NF n16 t40 t42 v16 f39
        else
          if t29 < 116 then
            if t29 = 115 then
              if l7_16 < 1 then
                if l7_16 < 2 then
                  let t72 : Int32 := l8_16 + 1
                  gsX_X4_worth_1_L16 NF n16 l7_16 t72 v16 f16
                else
                  let t75 : Int32 := l7_16 - 2
                  let t77 : Int32 := f16 13 (t75).toNatClampNeg
                  let t78 : Int32 := l7_16 - 1
                  let t79 : Int32 := f16 13 (t78).toNatClampNeg
                  let r80 : Int32 := gsX_X4_joined_1 NF t29 t77 t79 v16 f16
                  let f82 : Nat → Nat → Int32 := upd2 f16 13 (upd (f16 13) t75.toNatClampNeg r80)
                  let t83 : Int32 := l7_16 + (-1)
                  let t84 : Int32 := l8_16 + 1
                  gsX_X4_worth_1_L16 NF n16 t83 t84 v16 f82
              else
                let t87 : Int32 := l7_16 - 1
                let t89 : Int32 := f16 13 (t87).toNatClampNeg
                if t89 = 0 then
                  let f94 : Nat → Nat → Int32 := upd2 f16 13 (upd (f16 13) t87.toNatClampNeg 1)
                  let t95 : Int32 := l8_16 + 1
                  gsX_X4_worth_1_L16 NF n16 l7_16 t95 v16 f94
                else
                  let f91 : Nat → Nat → Int32 := upd2 f16 13 (upd (f16 13) t87.toNatClampNeg 0)
                  let t92 : Int32 := l8_16 + 1
                  gsX_X4_worth_1_L16 NF n16 l7_16 t92 v16 f91
            else
              if l7_16 < 2 then
                let t55 : Int32 := l8_16 + 1
                gsX_X4_worth_1_L16 NF n16 l7_16 t55 v16 f16
              else
                let t58 : Int32 := l7_16 - 2
                let t60 : Int32 := f16 13 (t58).toNatClampNeg
                let t61 : Int32 := l7_16 - 1
                let t62 : Int32 := f16 13 (t61).toNatClampNeg
                let r63 : Int32 := gsX_X4_joined_1 NF t29 t60 t62 v16 f16
                let f65 : Nat → Nat → Int32 := upd2 f16 13 (upd (f16 13) t58.toNatClampNeg r63)
                let t66 : Int32 := l7_16 + (-1)
                let t67 : Int32 := l8_16 + 1
                gsX_X4_worth_1_L16 NF n16 t66 t67 v16 f65
          else
            if 122 ≤ t29 then
              if t29 = 115 then
                if l7_16 < 1 then
                  if l7_16 < 2 then
                    let t117 : Int32 := l8_16 + 1
                    gsX_X4_worth_1_L16 NF n16 l7_16 t117 v16 f16
                  else
                    let t120 : Int32 := l7_16 - 2
                    let t122 : Int32 := f16 13 (t120).toNatClampNeg
                    let t123 : Int32 := l7_16 - 1
                    let t124 : Int32 := f16 13 (t123).toNatClampNeg
                    let r125 : Int32 := gsX_X4_joined_1 NF t29 t122 t124 v16 f16
                    let f127 : Nat → Nat → Int32 := upd2 f16 13 (upd (f16 13) t120.toNatClampNeg r125)
                    let t128 : Int32 := l7_16 + (-1)
                    let t129 : Int32 := l8_16 + 1
                    gsX_X4_worth_1_L16 NF n16 t128 t129 v16 f127
                else
                  let t132 : Int32 := l7_16 - 1
                  let t134 : Int32 := f16 13 (t132).toNatClampNeg
                  if t134 = 0 then
                    let f139 : Nat → Nat → Int32 := upd2 f16 13 (upd (f16 13) t132.toNatClampNeg 1)
                    let t140 : Int32 := l8_16 + 1
                    gsX_X4_worth_1_L16 NF n16 l7_16 t140 v16 f139
                  else
                    let f136 : Nat → Nat → Int32 := upd2 f16 13 (upd (f16 13) t132.toNatClampNeg 0)
                    let t137 : Int32 := l8_16 + 1
                    gsX_X4_worth_1_L16 NF n16 l7_16 t137 v16 f136
              else
                if l7_16 < 2 then
                  let t100 : Int32 := l8_16 + 1
                  gsX_X4_worth_1_L16 NF n16 l7_16 t100 v16 f16
                else
                  let t103 : Int32 := l7_16 - 2
                  let t105 : Int32 := f16 13 (t103).toNatClampNeg
                  let t106 : Int32 := l7_16 - 1
                  let t107 : Int32 := f16 13 (t106).toNatClampNeg
                  let r108 : Int32 := gsX_X4_joined_1 NF t29 t105 t107 v16 f16
                  let f110 : Nat → Nat → Int32 := upd2 f16 13 (upd (f16 13) t103.toNatClampNeg r108)
                  let t111 : Int32 := l7_16 + (-1)
                  let t112 : Int32 := l8_16 + 1
                  gsX_X4_worth_1_L16 NF n16 t111 t112 v16 f110
            else
              if 30 ≤ l7_16 then
                let t143 : Int32 := l8_16 + 1
                gsX_X4_worth_1_L16 NF n16 l7_16 t143 v16 f16
              else
                if t29 = 2 then
                  let t156 : Int32 := f16 12 (l8_16).toNatClampNeg
                  let f157 : Nat → Nat → Int32 := upd2 f16 13 (upd (f16 13) l7_16.toNatClampNeg t156)
                  let t158 : Int32 := l7_16 + 1
                  let t160 : Int32 := l8_16 + 1
                  gsX_X4_worth_1_L16 NF n16 t158 t160 v16 f157
                else
                  let t147 : Int32 := t29 - 116
                  let t149 : Int32 := f16 14 (t147).toNatClampNeg
                  let f150 : Nat → Nat → Int32 := upd2 f16 13 (upd (f16 13) l7_16.toNatClampNeg t149)
                  let t151 : Int32 := l7_16 + 1
                  let t153 : Int32 := l8_16 + 1
                  gsX_X4_worth_1_L16 NF n16 t151 t153 v16 f150
def gsX_X4_worth_1 (NF : Nat) (p1 : Int32) (p2 : Int32) (p3 : Int32) (p4 : Int32) (p5 : Int32) (p6 : Int32) (v : Nat → Int32) (f : Nat → Nat → Int32) : Int32 × (Nat → Int32) × (Nat → Nat → Int32) :=
  let t1 : Int32 := p2 - p4
  let t2 : Int32 := if (0 : Int32) < t1 then t1 else (0 : Int32)
  let f3 : Nat → Nat → Int32 := upd2 f 14 (upd (f 14) (0 : Int32).toNatClampNeg t2)
  let t4 : Int32 := p4 - p2
  let t5 : Int32 := if (0 : Int32) < t4 then t4 else (0 : Int32)
  let f6 : Nat → Nat → Int32 := upd2 f3 14 (upd (f3 14) (1 : Int32).toNatClampNeg t5)
  let t7 : Int32 := p1 - p3
  let t8 : Int32 := if (0 : Int32) < t7 then t7 else (0 : Int32)
  let f9 : Nat → Nat → Int32 := upd2 f6 14 (upd (f6 14) (2 : Int32).toNatClampNeg t8)
  let t10 : Int32 := p3 - p1
  let t11 : Int32 := if (0 : Int32) < t10 then t10 else (0 : Int32)
  let f12 : Nat → Nat → Int32 := upd2 f9 14 (upd (f9 14) (3 : Int32).toNatClampNeg t11)
  let f13 : Nat → Nat → Int32 := upd2 f12 14 (upd (f12 14) (4 : Int32).toNatClampNeg p5)
  let f14 : Nat → Nat → Int32 := upd2 f13 14 (upd (f13 14) (5 : Int32).toNatClampNeg p6)
  if (v 18) = 0 then
    let t163 : Int32 := f14 14 (0 : Int32).toNatClampNeg
    let t164 : Int32 := t163 * 3
    let t165 : Int32 := f14 14 (1 : Int32).toNatClampNeg
    let t166 : Int32 := t164 + t165
    let t167 : Int32 := f14 14 (2 : Int32).toNatClampNeg
    let t168 : Int32 := t167 * 2
    let t169 : Int32 := t166 + t168
    let t170 : Int32 := f14 14 (3 : Int32).toNatClampNeg
    let t171 : Int32 := t169 + t170
    let t172 : Int32 := t171 + p5
    let t173 : Int32 := if t172 < (999 : Int32) then t172 else (999 : Int32)
    (t173, v, f14)
  else
    gsX_X4_worth_1_L16 NF (4294967296 + NF) 0 0 v f14
theorem gsX_X4_worth_1_q20 {NF : Nat} {p1 : Int32} {p2 : Int32} {p3 : Int32} {p4 : Int32} {p5 : Int32} {p6 : Int32} {v : Nat → Int32} {f : Nat → Nat → Int32} {t1 : Int32} {t2 : Int32} {f3 : Nat → Nat → Int32} {t4 : Int32} {t5 : Int32} {f6 : Nat → Nat → Int32} {t7 : Int32} {t8 : Int32} {f9 : Nat → Nat → Int32} {t10 : Int32} {t11 : Int32} {f12 : Nat → Nat → Int32} {f13 : Nat → Nat → Int32} {f14 : Nat → Nat → Int32} (h0 : t1 = p2 - p4) (h1 : t2 = if (0 : Int32) < t1 then t1 else (0 : Int32)) (h2 : f3 = upd2 f 14 (upd (f 14) (0 : Int32).toNatClampNeg t2)) (h3 : t4 = p4 - p2) (h4 : t5 = if (0 : Int32) < t4 then t4 else (0 : Int32)) (h5 : f6 = upd2 f3 14 (upd (f3 14) (1 : Int32).toNatClampNeg t5)) (h6 : t7 = p1 - p3) (h7 : t8 = if (0 : Int32) < t7 then t7 else (0 : Int32)) (h8 : f9 = upd2 f6 14 (upd (f6 14) (2 : Int32).toNatClampNeg t8)) (h9 : t10 = p3 - p1) (h10 : t11 = if (0 : Int32) < t10 then t10 else (0 : Int32)) (h11 : f12 = upd2 f9 14 (upd (f9 14) (3 : Int32).toNatClampNeg t11)) (h12 : f13 = upd2 f12 14 (upd (f12 14) (4 : Int32).toNatClampNeg p5)) (h13 : f14 = upd2 f13 14 (upd (f13 14) (5 : Int32).toNatClampNeg p6)) (h14 : ¬ ((v 18) = 0)) : gsX_X4_worth_1 NF p1 p2 p3 p4 p5 p6 v f = gsX_X4_worth_1_L16 NF (4294967296 + NF) 0 0 v f14 := by
  subst h0 h1 h2 h3 h4 h5 h6 h7 h8 h9 h10 h11 h12 h13
  simp only [gsX_X4_worth_1, if_neg h14]
theorem gsX_X4_worth_1_q21 {NF : Nat} {p1 : Int32} {p2 : Int32} {p3 : Int32} {p4 : Int32} {p5 : Int32} {p6 : Int32} {v : Nat → Int32} {f : Nat → Nat → Int32} {t1 : Int32} {t2 : Int32} {f3 : Nat → Nat → Int32} {t4 : Int32} {t5 : Int32} {f6 : Nat → Nat → Int32} {t7 : Int32} {t8 : Int32} {f9 : Nat → Nat → Int32} {t10 : Int32} {t11 : Int32} {f12 : Nat → Nat → Int32} {f13 : Nat → Nat → Int32} {f14 : Nat → Nat → Int32} {t163 : Int32} {t164 : Int32} {t165 : Int32} {t166 : Int32} {t167 : Int32} {t168 : Int32} {t169 : Int32} {t170 : Int32} {t171 : Int32} {t172 : Int32} {t173 : Int32} (h0 : t1 = p2 - p4) (h1 : t2 = if (0 : Int32) < t1 then t1 else (0 : Int32)) (h2 : f3 = upd2 f 14 (upd (f 14) (0 : Int32).toNatClampNeg t2)) (h3 : t4 = p4 - p2) (h4 : t5 = if (0 : Int32) < t4 then t4 else (0 : Int32)) (h5 : f6 = upd2 f3 14 (upd (f3 14) (1 : Int32).toNatClampNeg t5)) (h6 : t7 = p1 - p3) (h7 : t8 = if (0 : Int32) < t7 then t7 else (0 : Int32)) (h8 : f9 = upd2 f6 14 (upd (f6 14) (2 : Int32).toNatClampNeg t8)) (h9 : t10 = p3 - p1) (h10 : t11 = if (0 : Int32) < t10 then t10 else (0 : Int32)) (h11 : f12 = upd2 f9 14 (upd (f9 14) (3 : Int32).toNatClampNeg t11)) (h12 : f13 = upd2 f12 14 (upd (f12 14) (4 : Int32).toNatClampNeg p5)) (h13 : f14 = upd2 f13 14 (upd (f13 14) (5 : Int32).toNatClampNeg p6)) (h14 : ((v 18) = 0)) (h15 : t163 = f14 14 (0 : Int32).toNatClampNeg) (h16 : t164 = t163 * 3) (h17 : t165 = f14 14 (1 : Int32).toNatClampNeg) (h18 : t166 = t164 + t165) (h19 : t167 = f14 14 (2 : Int32).toNatClampNeg) (h20 : t168 = t167 * 2) (h21 : t169 = t166 + t168) (h22 : t170 = f14 14 (3 : Int32).toNatClampNeg) (h23 : t171 = t169 + t170) (h24 : t172 = t171 + p5) (h25 : t173 = if t172 < (999 : Int32) then t172 else (999 : Int32)) : gsX_X4_worth_1 NF p1 p2 p3 p4 p5 p6 v f = (t173, v, f14) := by
  subst h0 h1 h2 h3 h4 h5 h6 h7 h8 h9 h10 h11 h12 h13 h15 h16 h17 h18 h19 h20 h21 h22 h23 h24 h25
  simp only [gsX_X4_worth_1, if_pos h14]
theorem gsX_X4_worth_1_q0 {NF : Nat} {n16 : Nat} {l7_16 : Int32} {l8_16 : Int32} {v16 : Nat → Int32} {f16 : Nat → Nat → Int32} {t20 : Int32} {t21 : Int32} {t22 : Int32} (h0 : ((v16 18) ≤ l8_16)) (h1 : t20 = f16 13 (0 : Int32).toNatClampNeg) (h2 : t21 = if t20 < (999 : Int32) then t20 else (999 : Int32)) (h3 : t22 = if (0 : Int32) < t21 then t21 else (0 : Int32)) : gsX_X4_worth_1_L16 NF (n16 + 1) l7_16 l8_16 v16 f16 = (t22, v16, f16) := by
  subst h1 h2 h3
  simp only [gsX_X4_worth_1_L16, if_pos h0]
theorem gsX_X4_worth_1_q1 {NF : Nat} {n16 : Nat} {l7_16 : Int32} {l8_16 : Int32} {v16 : Nat → Int32} {f16 : Nat → Nat → Int32} {t26 : Int32} {t27 : Int32} {t28 : Int32} (h0 : ¬ ((v16 18) ≤ l8_16)) (h1 : (300 ≤ l8_16)) (h2 : t26 = f16 13 (0 : Int32).toNatClampNeg) (h3 : t27 = if t26 < (999 : Int32) then t26 else (999 : Int32)) (h4 : t28 = if (0 : Int32) < t27 then t27 else (0 : Int32)) : gsX_X4_worth_1_L16 NF (n16 + 1) l7_16 l8_16 v16 f16 = (t28, v16, f16) := by
  subst h2 h3 h4
  simp only [gsX_X4_worth_1_L16, if_neg h0, if_pos h1]
theorem gsX_X4_worth_1_q2 {NF : Nat} {n16 : Nat} {l7_16 : Int32} {l8_16 : Int32} {v16 : Nat → Int32} {f16 : Nat → Nat → Int32} {t29 : Int32} {t32 : Int32} (h0 : ¬ ((v16 18) ≤ l8_16)) (h1 : ¬ (300 ≤ l8_16)) (h2 : t29 = f16 11 (l8_16).toNatClampNeg) (h3 : (t29 = 2)) (h4 : (30 ≤ l7_16)) (h5 : t32 = l8_16 + 1) : gsX_X4_worth_1_L16 NF (n16 + 1) l7_16 l8_16 v16 f16 = gsX_X4_worth_1_L16 NF n16 l7_16 t32 v16 f16 := by
  subst h2 h5
  simp only [gsX_X4_worth_1_L16, if_neg h0, if_neg h1, if_pos h3, if_pos h4]
theorem gsX_X4_worth_1_q3 {NF : Nat} {n16 : Nat} {l7_16 : Int32} {l8_16 : Int32} {v16 : Nat → Int32} {f16 : Nat → Nat → Int32} {t29 : Int32} {t36 : Int32} {t38 : Int32} {f39 : Nat → Nat → Int32} {t40 : Int32} {t42 : Int32} (h0 : ¬ ((v16 18) ≤ l8_16)) (h1 : ¬ (300 ≤ l8_16)) (h2 : t29 = f16 11 (l8_16).toNatClampNeg) (h3 : (t29 = 2)) (h4 : ¬ (30 ≤ l7_16)) (h5 : ¬ (t29 = 2)) (h6 : t36 = t29 - 116) (h7 : t38 = f16 14 (t36).toNatClampNeg) (h8 : f39 = upd2 f16 13 (upd (f16 13) l7_16.toNatClampNeg t38)) (h9 : t40 = l7_16 + 1) (h10 : t42 = l8_16 + 1) : gsX_X4_worth_1_L16 NF (n16 + 1) l7_16 l8_16 v16 f16 = gsX_X4_worth_1_L16 NF n16 t40 t42 v16 f39 := by
  exact absurd h3 h5
theorem gsX_X4_worth_1_q4 {NF : Nat} {n16 : Nat} {l7_16 : Int32} {l8_16 : Int32} {v16 : Nat → Int32} {f16 : Nat → Nat → Int32} {t29 : Int32} {t45 : Int32} {f46 : Nat → Nat → Int32} {t47 : Int32} {t49 : Int32} (h0 : ¬ ((v16 18) ≤ l8_16)) (h1 : ¬ (300 ≤ l8_16)) (h2 : t29 = f16 11 (l8_16).toNatClampNeg) (h3 : (t29 = 2)) (h4 : ¬ (30 ≤ l7_16)) (h5 : (t29 = 2)) (h6 : t45 = f16 12 (l8_16).toNatClampNeg) (h7 : f46 = upd2 f16 13 (upd (f16 13) l7_16.toNatClampNeg t45)) (h8 : t47 = l7_16 + 1) (h9 : t49 = l8_16 + 1) : gsX_X4_worth_1_L16 NF (n16 + 1) l7_16 l8_16 v16 f16 = gsX_X4_worth_1_L16 NF n16 t47 t49 v16 f46 := by
  subst h2 h6 h7 h8 h9
  simp only [gsX_X4_worth_1_L16, if_neg h0, if_neg h1, if_pos h3, if_neg h4, if_pos h5]
theorem gsX_X4_worth_1_q5 {NF : Nat} {n16 : Nat} {l7_16 : Int32} {l8_16 : Int32} {v16 : Nat → Int32} {f16 : Nat → Nat → Int32} {t29 : Int32} {t55 : Int32} (h0 : ¬ ((v16 18) ≤ l8_16)) (h1 : ¬ (300 ≤ l8_16)) (h2 : t29 = f16 11 (l8_16).toNatClampNeg) (h3 : ¬ (t29 = 2)) (h4 : (t29 < 116)) (h5 : ¬ (t29 = 115)) (h6 : (l7_16 < 2)) (h7 : t55 = l8_16 + 1) : gsX_X4_worth_1_L16 NF (n16 + 1) l7_16 l8_16 v16 f16 = gsX_X4_worth_1_L16 NF n16 l7_16 t55 v16 f16 := by
  subst h2 h7
  simp only [gsX_X4_worth_1_L16, if_neg h0, if_neg h1, if_neg h3, if_pos h4, if_neg h5, if_pos h6]
theorem gsX_X4_worth_1_q6 {NF : Nat} {n16 : Nat} {l7_16 : Int32} {l8_16 : Int32} {v16 : Nat → Int32} {f16 : Nat → Nat → Int32} {t29 : Int32} {t58 : Int32} {t60 : Int32} {t61 : Int32} {t62 : Int32} {r63 : Int32} {f65 : Nat → Nat → Int32} {t66 : Int32} {t67 : Int32} (h0 : ¬ ((v16 18) ≤ l8_16)) (h1 : ¬ (300 ≤ l8_16)) (h2 : t29 = f16 11 (l8_16).toNatClampNeg) (h3 : ¬ (t29 = 2)) (h4 : (t29 < 116)) (h5 : ¬ (t29 = 115)) (h6 : ¬ (l7_16 < 2)) (h7 : t58 = l7_16 - 2) (h8 : t60 = f16 13 (t58).toNatClampNeg) (h9 : t61 = l7_16 - 1) (h10 : t62 = f16 13 (t61).toNatClampNeg) (h11 : r63 = gsX_X4_joined_1 NF t29 t60 t62 v16 f16) (h12 : f65 = upd2 f16 13 (upd (f16 13) t58.toNatClampNeg r63)) (h13 : t66 = l7_16 + (-1)) (h14 : t67 = l8_16 + 1) : gsX_X4_worth_1_L16 NF (n16 + 1) l7_16 l8_16 v16 f16 = gsX_X4_worth_1_L16 NF n16 t66 t67 v16 f65 := by
  subst h2 h7 h8 h9 h10 h11 h12 h13 h14
  simp only [gsX_X4_worth_1_L16, if_neg h0, if_neg h1, if_neg h3, if_pos h4, if_neg h5, if_neg h6]
theorem gsX_X4_worth_1_q7 {NF : Nat} {n16 : Nat} {l7_16 : Int32} {l8_16 : Int32} {v16 : Nat → Int32} {f16 : Nat → Nat → Int32} {t29 : Int32} {t72 : Int32} (h0 : ¬ ((v16 18) ≤ l8_16)) (h1 : ¬ (300 ≤ l8_16)) (h2 : t29 = f16 11 (l8_16).toNatClampNeg) (h3 : ¬ (t29 = 2)) (h4 : (t29 < 116)) (h5 : (t29 = 115)) (h6 : (l7_16 < 1)) (h7 : (l7_16 < 2)) (h8 : t72 = l8_16 + 1) : gsX_X4_worth_1_L16 NF (n16 + 1) l7_16 l8_16 v16 f16 = gsX_X4_worth_1_L16 NF n16 l7_16 t72 v16 f16 := by
  subst h2 h8
  simp only [gsX_X4_worth_1_L16, if_neg h0, if_neg h1, if_neg h3, if_pos h4, if_pos h5, if_pos h6, if_pos h7]
theorem gsX_X4_worth_1_q8 {NF : Nat} {n16 : Nat} {l7_16 : Int32} {l8_16 : Int32} {v16 : Nat → Int32} {f16 : Nat → Nat → Int32} {t29 : Int32} {t75 : Int32} {t77 : Int32} {t78 : Int32} {t79 : Int32} {r80 : Int32} {f82 : Nat → Nat → Int32} {t83 : Int32} {t84 : Int32} (h0 : ¬ ((v16 18) ≤ l8_16)) (h1 : ¬ (300 ≤ l8_16)) (h2 : t29 = f16 11 (l8_16).toNatClampNeg) (h3 : ¬ (t29 = 2)) (h4 : (t29 < 116)) (h5 : (t29 = 115)) (h6 : (l7_16 < 1)) (h7 : ¬ (l7_16 < 2)) (h8 : t75 = l7_16 - 2) (h9 : t77 = f16 13 (t75).toNatClampNeg) (h10 : t78 = l7_16 - 1) (h11 : t79 = f16 13 (t78).toNatClampNeg) (h12 : r80 = gsX_X4_joined_1 NF t29 t77 t79 v16 f16) (h13 : f82 = upd2 f16 13 (upd (f16 13) t75.toNatClampNeg r80)) (h14 : t83 = l7_16 + (-1)) (h15 : t84 = l8_16 + 1) : gsX_X4_worth_1_L16 NF (n16 + 1) l7_16 l8_16 v16 f16 = gsX_X4_worth_1_L16 NF n16 t83 t84 v16 f82 := by
  subst h2 h8 h9 h10 h11 h12 h13 h14 h15
  simp only [gsX_X4_worth_1_L16, if_neg h0, if_neg h1, if_neg h3, if_pos h4, if_pos h5, if_pos h6, if_neg h7]
theorem gsX_X4_worth_1_q9 {NF : Nat} {n16 : Nat} {l7_16 : Int32} {l8_16 : Int32} {v16 : Nat → Int32} {f16 : Nat → Nat → Int32} {t29 : Int32} {t87 : Int32} {t89 : Int32} {f91 : Nat → Nat → Int32} {t92 : Int32} (h0 : ¬ ((v16 18) ≤ l8_16)) (h1 : ¬ (300 ≤ l8_16)) (h2 : t29 = f16 11 (l8_16).toNatClampNeg) (h3 : ¬ (t29 = 2)) (h4 : (t29 < 116)) (h5 : (t29 = 115)) (h6 : ¬ (l7_16 < 1)) (h7 : t87 = l7_16 - 1) (h8 : t89 = f16 13 (t87).toNatClampNeg) (h9 : ¬ (t89 = 0)) (h10 : f91 = upd2 f16 13 (upd (f16 13) t87.toNatClampNeg 0)) (h11 : t92 = l8_16 + 1) : gsX_X4_worth_1_L16 NF (n16 + 1) l7_16 l8_16 v16 f16 = gsX_X4_worth_1_L16 NF n16 l7_16 t92 v16 f91 := by
  subst h2 h7 h8 h10 h11
  simp only [gsX_X4_worth_1_L16, if_neg h0, if_neg h1, if_neg h3, if_pos h4, if_pos h5, if_neg h6, if_neg h9]
theorem gsX_X4_worth_1_q10 {NF : Nat} {n16 : Nat} {l7_16 : Int32} {l8_16 : Int32} {v16 : Nat → Int32} {f16 : Nat → Nat → Int32} {t29 : Int32} {t87 : Int32} {t89 : Int32} {f94 : Nat → Nat → Int32} {t95 : Int32} (h0 : ¬ ((v16 18) ≤ l8_16)) (h1 : ¬ (300 ≤ l8_16)) (h2 : t29 = f16 11 (l8_16).toNatClampNeg) (h3 : ¬ (t29 = 2)) (h4 : (t29 < 116)) (h5 : (t29 = 115)) (h6 : ¬ (l7_16 < 1)) (h7 : t87 = l7_16 - 1) (h8 : t89 = f16 13 (t87).toNatClampNeg) (h9 : (t89 = 0)) (h10 : f94 = upd2 f16 13 (upd (f16 13) t87.toNatClampNeg 1)) (h11 : t95 = l8_16 + 1) : gsX_X4_worth_1_L16 NF (n16 + 1) l7_16 l8_16 v16 f16 = gsX_X4_worth_1_L16 NF n16 l7_16 t95 v16 f94 := by
  subst h2 h7 h8 h10 h11
  simp only [gsX_X4_worth_1_L16, if_neg h0, if_neg h1, if_neg h3, if_pos h4, if_pos h5, if_neg h6, if_pos h9]
theorem gsX_X4_worth_1_q11 {NF : Nat} {n16 : Nat} {l7_16 : Int32} {l8_16 : Int32} {v16 : Nat → Int32} {f16 : Nat → Nat → Int32} {t29 : Int32} {t100 : Int32} (h0 : ¬ ((v16 18) ≤ l8_16)) (h1 : ¬ (300 ≤ l8_16)) (h2 : t29 = f16 11 (l8_16).toNatClampNeg) (h3 : ¬ (t29 = 2)) (h4 : ¬ (t29 < 116)) (h5 : (122 ≤ t29)) (h6 : ¬ (t29 = 115)) (h7 : (l7_16 < 2)) (h8 : t100 = l8_16 + 1) : gsX_X4_worth_1_L16 NF (n16 + 1) l7_16 l8_16 v16 f16 = gsX_X4_worth_1_L16 NF n16 l7_16 t100 v16 f16 := by
  subst h2 h8
  simp only [gsX_X4_worth_1_L16, if_neg h0, if_neg h1, if_neg h3, if_neg h4, if_pos h5, if_neg h6, if_pos h7]
theorem gsX_X4_worth_1_q12 {NF : Nat} {n16 : Nat} {l7_16 : Int32} {l8_16 : Int32} {v16 : Nat → Int32} {f16 : Nat → Nat → Int32} {t29 : Int32} {t103 : Int32} {t105 : Int32} {t106 : Int32} {t107 : Int32} {r108 : Int32} {f110 : Nat → Nat → Int32} {t111 : Int32} {t112 : Int32} (h0 : ¬ ((v16 18) ≤ l8_16)) (h1 : ¬ (300 ≤ l8_16)) (h2 : t29 = f16 11 (l8_16).toNatClampNeg) (h3 : ¬ (t29 = 2)) (h4 : ¬ (t29 < 116)) (h5 : (122 ≤ t29)) (h6 : ¬ (t29 = 115)) (h7 : ¬ (l7_16 < 2)) (h8 : t103 = l7_16 - 2) (h9 : t105 = f16 13 (t103).toNatClampNeg) (h10 : t106 = l7_16 - 1) (h11 : t107 = f16 13 (t106).toNatClampNeg) (h12 : r108 = gsX_X4_joined_1 NF t29 t105 t107 v16 f16) (h13 : f110 = upd2 f16 13 (upd (f16 13) t103.toNatClampNeg r108)) (h14 : t111 = l7_16 + (-1)) (h15 : t112 = l8_16 + 1) : gsX_X4_worth_1_L16 NF (n16 + 1) l7_16 l8_16 v16 f16 = gsX_X4_worth_1_L16 NF n16 t111 t112 v16 f110 := by
  subst h2 h8 h9 h10 h11 h12 h13 h14 h15
  simp only [gsX_X4_worth_1_L16, if_neg h0, if_neg h1, if_neg h3, if_neg h4, if_pos h5, if_neg h6, if_neg h7]
theorem gsX_X4_worth_1_q13 {NF : Nat} {n16 : Nat} {l7_16 : Int32} {l8_16 : Int32} {v16 : Nat → Int32} {f16 : Nat → Nat → Int32} {t29 : Int32} {t117 : Int32} (h0 : ¬ ((v16 18) ≤ l8_16)) (h1 : ¬ (300 ≤ l8_16)) (h2 : t29 = f16 11 (l8_16).toNatClampNeg) (h3 : ¬ (t29 = 2)) (h4 : ¬ (t29 < 116)) (h5 : (122 ≤ t29)) (h6 : (t29 = 115)) (h7 : (l7_16 < 1)) (h8 : (l7_16 < 2)) (h9 : t117 = l8_16 + 1) : gsX_X4_worth_1_L16 NF (n16 + 1) l7_16 l8_16 v16 f16 = gsX_X4_worth_1_L16 NF n16 l7_16 t117 v16 f16 := by
  subst h2 h9
  simp only [gsX_X4_worth_1_L16, if_neg h0, if_neg h1, if_neg h3, if_neg h4, if_pos h5, if_pos h6, if_pos h7, if_pos h8]
theorem gsX_X4_worth_1_q14 {NF : Nat} {n16 : Nat} {l7_16 : Int32} {l8_16 : Int32} {v16 : Nat → Int32} {f16 : Nat → Nat → Int32} {t29 : Int32} {t120 : Int32} {t122 : Int32} {t123 : Int32} {t124 : Int32} {r125 : Int32} {f127 : Nat → Nat → Int32} {t128 : Int32} {t129 : Int32} (h0 : ¬ ((v16 18) ≤ l8_16)) (h1 : ¬ (300 ≤ l8_16)) (h2 : t29 = f16 11 (l8_16).toNatClampNeg) (h3 : ¬ (t29 = 2)) (h4 : ¬ (t29 < 116)) (h5 : (122 ≤ t29)) (h6 : (t29 = 115)) (h7 : (l7_16 < 1)) (h8 : ¬ (l7_16 < 2)) (h9 : t120 = l7_16 - 2) (h10 : t122 = f16 13 (t120).toNatClampNeg) (h11 : t123 = l7_16 - 1) (h12 : t124 = f16 13 (t123).toNatClampNeg) (h13 : r125 = gsX_X4_joined_1 NF t29 t122 t124 v16 f16) (h14 : f127 = upd2 f16 13 (upd (f16 13) t120.toNatClampNeg r125)) (h15 : t128 = l7_16 + (-1)) (h16 : t129 = l8_16 + 1) : gsX_X4_worth_1_L16 NF (n16 + 1) l7_16 l8_16 v16 f16 = gsX_X4_worth_1_L16 NF n16 t128 t129 v16 f127 := by
  subst h2 h9 h10 h11 h12 h13 h14 h15 h16
  simp only [gsX_X4_worth_1_L16, if_neg h0, if_neg h1, if_neg h3, if_neg h4, if_pos h5, if_pos h6, if_pos h7, if_neg h8]
theorem gsX_X4_worth_1_q15 {NF : Nat} {n16 : Nat} {l7_16 : Int32} {l8_16 : Int32} {v16 : Nat → Int32} {f16 : Nat → Nat → Int32} {t29 : Int32} {t132 : Int32} {t134 : Int32} {f136 : Nat → Nat → Int32} {t137 : Int32} (h0 : ¬ ((v16 18) ≤ l8_16)) (h1 : ¬ (300 ≤ l8_16)) (h2 : t29 = f16 11 (l8_16).toNatClampNeg) (h3 : ¬ (t29 = 2)) (h4 : ¬ (t29 < 116)) (h5 : (122 ≤ t29)) (h6 : (t29 = 115)) (h7 : ¬ (l7_16 < 1)) (h8 : t132 = l7_16 - 1) (h9 : t134 = f16 13 (t132).toNatClampNeg) (h10 : ¬ (t134 = 0)) (h11 : f136 = upd2 f16 13 (upd (f16 13) t132.toNatClampNeg 0)) (h12 : t137 = l8_16 + 1) : gsX_X4_worth_1_L16 NF (n16 + 1) l7_16 l8_16 v16 f16 = gsX_X4_worth_1_L16 NF n16 l7_16 t137 v16 f136 := by
  subst h2 h8 h9 h11 h12
  simp only [gsX_X4_worth_1_L16, if_neg h0, if_neg h1, if_neg h3, if_neg h4, if_pos h5, if_pos h6, if_neg h7, if_neg h10]
theorem gsX_X4_worth_1_q16 {NF : Nat} {n16 : Nat} {l7_16 : Int32} {l8_16 : Int32} {v16 : Nat → Int32} {f16 : Nat → Nat → Int32} {t29 : Int32} {t132 : Int32} {t134 : Int32} {f139 : Nat → Nat → Int32} {t140 : Int32} (h0 : ¬ ((v16 18) ≤ l8_16)) (h1 : ¬ (300 ≤ l8_16)) (h2 : t29 = f16 11 (l8_16).toNatClampNeg) (h3 : ¬ (t29 = 2)) (h4 : ¬ (t29 < 116)) (h5 : (122 ≤ t29)) (h6 : (t29 = 115)) (h7 : ¬ (l7_16 < 1)) (h8 : t132 = l7_16 - 1) (h9 : t134 = f16 13 (t132).toNatClampNeg) (h10 : (t134 = 0)) (h11 : f139 = upd2 f16 13 (upd (f16 13) t132.toNatClampNeg 1)) (h12 : t140 = l8_16 + 1) : gsX_X4_worth_1_L16 NF (n16 + 1) l7_16 l8_16 v16 f16 = gsX_X4_worth_1_L16 NF n16 l7_16 t140 v16 f139 := by
  subst h2 h8 h9 h11 h12
  simp only [gsX_X4_worth_1_L16, if_neg h0, if_neg h1, if_neg h3, if_neg h4, if_pos h5, if_pos h6, if_neg h7, if_pos h10]
theorem gsX_X4_worth_1_q17 {NF : Nat} {n16 : Nat} {l7_16 : Int32} {l8_16 : Int32} {v16 : Nat → Int32} {f16 : Nat → Nat → Int32} {t29 : Int32} {t143 : Int32} (h0 : ¬ ((v16 18) ≤ l8_16)) (h1 : ¬ (300 ≤ l8_16)) (h2 : t29 = f16 11 (l8_16).toNatClampNeg) (h3 : ¬ (t29 = 2)) (h4 : ¬ (t29 < 116)) (h5 : ¬ (122 ≤ t29)) (h6 : (30 ≤ l7_16)) (h7 : t143 = l8_16 + 1) : gsX_X4_worth_1_L16 NF (n16 + 1) l7_16 l8_16 v16 f16 = gsX_X4_worth_1_L16 NF n16 l7_16 t143 v16 f16 := by
  subst h2 h7
  simp only [gsX_X4_worth_1_L16, if_neg h0, if_neg h1, if_neg h3, if_neg h4, if_neg h5, if_pos h6]
theorem gsX_X4_worth_1_q18 {NF : Nat} {n16 : Nat} {l7_16 : Int32} {l8_16 : Int32} {v16 : Nat → Int32} {f16 : Nat → Nat → Int32} {t29 : Int32} {t147 : Int32} {t149 : Int32} {f150 : Nat → Nat → Int32} {t151 : Int32} {t153 : Int32} (h0 : ¬ ((v16 18) ≤ l8_16)) (h1 : ¬ (300 ≤ l8_16)) (h2 : t29 = f16 11 (l8_16).toNatClampNeg) (h3 : ¬ (t29 = 2)) (h4 : ¬ (t29 < 116)) (h5 : ¬ (122 ≤ t29)) (h6 : ¬ (30 ≤ l7_16)) (h7 : ¬ (t29 = 2)) (h8 : t147 = t29 - 116) (h9 : t149 = f16 14 (t147).toNatClampNeg) (h10 : f150 = upd2 f16 13 (upd (f16 13) l7_16.toNatClampNeg t149)) (h11 : t151 = l7_16 + 1) (h12 : t153 = l8_16 + 1) : gsX_X4_worth_1_L16 NF (n16 + 1) l7_16 l8_16 v16 f16 = gsX_X4_worth_1_L16 NF n16 t151 t153 v16 f150 := by
  subst h2 h8 h9 h10 h11 h12
  simp only [gsX_X4_worth_1_L16, if_neg h0, if_neg h1, if_neg h3, if_neg h4, if_neg h5, if_neg h6, if_neg h7]
theorem gsX_X4_worth_1_q19 {NF : Nat} {n16 : Nat} {l7_16 : Int32} {l8_16 : Int32} {v16 : Nat → Int32} {f16 : Nat → Nat → Int32} {t29 : Int32} {t156 : Int32} {f157 : Nat → Nat → Int32} {t158 : Int32} {t160 : Int32} (h0 : ¬ ((v16 18) ≤ l8_16)) (h1 : ¬ (300 ≤ l8_16)) (h2 : t29 = f16 11 (l8_16).toNatClampNeg) (h3 : ¬ (t29 = 2)) (h4 : ¬ (t29 < 116)) (h5 : ¬ (122 ≤ t29)) (h6 : ¬ (30 ≤ l7_16)) (h7 : (t29 = 2)) (h8 : t156 = f16 12 (l8_16).toNatClampNeg) (h9 : f157 = upd2 f16 13 (upd (f16 13) l7_16.toNatClampNeg t156)) (h10 : t158 = l7_16 + 1) (h11 : t160 = l8_16 + 1) : gsX_X4_worth_1_L16 NF (n16 + 1) l7_16 l8_16 v16 f16 = gsX_X4_worth_1_L16 NF n16 t158 t160 v16 f157 := by
  exact absurd h7 h3
