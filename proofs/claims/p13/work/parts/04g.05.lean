def gsX_X4_add_1 (NF : Nat) (p1 : Int32) (p2 : Int32) (v : Nat → Int32) (f : Nat → Nat → Int32) : (Nat → Int32) × (Nat → Nat → Int32) :=
  if 300 ≤ (v 16) then
    (v, f)
  else
    let f2 : Nat → Nat → Int32 := upd2 f 3 (upd (f 3) (v 16).toNatClampNeg p1)
    let f3 : Nat → Nat → Int32 := upd2 f2 4 (upd (f2 4) (v 16).toNatClampNeg p2)
    let t4 : Int32 := (v 16) + 1
    ((upd v 16 t4), f3)
theorem gsX_X4_add_1_q0 {NF : Nat} {p1 : Int32} {p2 : Int32} {v : Nat → Int32} {f : Nat → Nat → Int32} (h0 : (300 ≤ (v 16))) : gsX_X4_add_1 NF p1 p2 v f = (v, f) := by
  simp only [gsX_X4_add_1, if_pos h0]
theorem gsX_X4_add_1_q1 {NF : Nat} {p1 : Int32} {p2 : Int32} {v : Nat → Int32} {f : Nat → Nat → Int32} {f2 : Nat → Nat → Int32} {f3 : Nat → Nat → Int32} {t4 : Int32} (h0 : ¬ (300 ≤ (v 16))) (h1 : f2 = upd2 f 3 (upd (f 3) (v 16).toNatClampNeg p1)) (h2 : f3 = upd2 f2 4 (upd (f2 4) (v 16).toNatClampNeg p2)) (h3 : t4 = (v 16) + 1) : gsX_X4_add_1 NF p1 p2 v f = ((upd v 16 t4), f3) := by
  subst h1 h2 h3
  simp only [gsX_X4_add_1, if_neg h0]
def gsX_X6_unit_8 (NF : Nat) (v : Nat → Int32) (f : Nat → Nat → Int32) : Int32 × (Nat → Int32) × (Nat → Nat → Int32) :=
  if (v 2) = 2 then
    if (v 17) < 30 then
      match gsX_X4_add_1 NF (v 2) (v 5) v f with
      | (v4, f5) =>
        let t6 : Int32 := (v4 17) + 1
        match gsX_X9_advance_1 NF (upd v4 17 t6) f5 with
        | (v8, f9) =>
          (1, v8, f9)
    else
      match gsX_X6_refuse_1 NF v f with
      | (r10, v12, f13) =>
        if r10 = 1 then
          (1, v12, f13)
        else
          (0, v12, f13)
  else
    if (v 2) < 116 then
      if (v 2) = 40 then
        if (v 17) < 30 then
          match gsX_X6_refuse_1 NF v f with
          | (r23, v25, f26) =>
            if r23 = 1 then
              (1, v25, f26)
            else
              (0, v25, f26)
        else
          match gsX_X6_refuse_1 NF v f with
          | (r28, v30, f31) =>
            if r28 = 1 then
              (1, v30, f31)
            else
              (0, v30, f31)
      else
        match gsX_X6_refuse_1 NF v f with
        | (r17, v19, f20) =>
          if r17 = 1 then
            (1, v19, f20)
          else
            (0, v19, f20)
    else
      if 121 < (v 2) then
        if (v 2) = 40 then
          if (v 17) < 30 then
            match gsX_X6_refuse_1 NF v f with
            | (r41, v43, f44) =>
              if r41 = 1 then
                (1, v43, f44)
              else
                (0, v43, f44)
          else
            match gsX_X6_refuse_1 NF v f with
            | (r46, v48, f49) =>
              if r46 = 1 then
                (1, v48, f49)
              else
                (0, v48, f49)
        else
          match gsX_X6_refuse_1 NF v f with
          | (r35, v37, f38) =>
            if r35 = 1 then
              (1, v37, f38)
            else
              (0, v37, f38)
      else
        if (v 17) < 30 then
          match gsX_X4_add_1 NF (v 2) (v 5) v f with
          | (v53, f54) =>
            let t55 : Int32 := (v53 17) + 1
            match gsX_X9_advance_1 NF (upd v53 17 t55) f54 with
            | (v57, f58) =>
              (1, v57, f58)
        else
          match gsX_X6_refuse_1 NF v f with
          | (r59, v61, f62) =>
            if r59 = 1 then
              (1, v61, f62)
            else
              (0, v61, f62)
theorem gsX_X6_unit_8_q0 {NF : Nat} {v : Nat → Int32} {f : Nat → Nat → Int32} {v4 : Nat → Int32} {f5 : Nat → Nat → Int32} {t6 : Int32} {v8 : Nat → Int32} {f9 : Nat → Nat → Int32} (h0 : ((v 2) = 2)) (h1 : ((v 17) < 30)) (h2 : gsX_X4_add_1 NF (v 2) (v 5) v f = (v4, f5)) (h3 : t6 = (v4 17) + 1) (h4 : gsX_X9_advance_1 NF (upd v4 17 t6) f5 = (v8, f9)) : gsX_X6_unit_8 NF v f = (1, v8, f9) := by
  subst h3
  simp only [gsX_X6_unit_8, if_pos h0, if_pos h1, h2, h4]
theorem gsX_X6_unit_8_q1 {NF : Nat} {v : Nat → Int32} {f : Nat → Nat → Int32} {v12 : Nat → Int32} {f13 : Nat → Nat → Int32} (h0 : ((v 2) = 2)) (h1 : ¬ ((v 17) < 30)) (h2 : gsX_X6_refuse_1 NF v f = (1, v12, f13)) : gsX_X6_unit_8 NF v f = (1, v12, f13) := by
  simp only [gsX_X6_unit_8, if_pos h0, if_neg h1, h2, ite11, ite01, if_true, if_false]
theorem gsX_X6_unit_8_q2 {NF : Nat} {v : Nat → Int32} {f : Nat → Nat → Int32} {v12 : Nat → Int32} {f13 : Nat → Nat → Int32} (h0 : ((v 2) = 2)) (h1 : ¬ ((v 17) < 30)) (h2 : gsX_X6_refuse_1 NF v f = (0, v12, f13)) : gsX_X6_unit_8 NF v f = (0, v12, f13) := by
  simp only [gsX_X6_unit_8, if_pos h0, if_neg h1, h2, ite11, ite01, if_true, if_false]
theorem gsX_X6_unit_8_q3 {NF : Nat} {v : Nat → Int32} {f : Nat → Nat → Int32} {v19 : Nat → Int32} {f20 : Nat → Nat → Int32} (h0 : ¬ ((v 2) = 2)) (h1 : ((v 2) < 116)) (h2 : ¬ ((v 2) = 40)) (h3 : gsX_X6_refuse_1 NF v f = (1, v19, f20)) : gsX_X6_unit_8 NF v f = (1, v19, f20) := by
  simp only [gsX_X6_unit_8, if_neg h0, if_pos h1, if_neg h2, h3, ite11, ite01, if_true, if_false]
theorem gsX_X6_unit_8_q4 {NF : Nat} {v : Nat → Int32} {f : Nat → Nat → Int32} {v19 : Nat → Int32} {f20 : Nat → Nat → Int32} (h0 : ¬ ((v 2) = 2)) (h1 : ((v 2) < 116)) (h2 : ¬ ((v 2) = 40)) (h3 : gsX_X6_refuse_1 NF v f = (0, v19, f20)) : gsX_X6_unit_8 NF v f = (0, v19, f20) := by
  simp only [gsX_X6_unit_8, if_neg h0, if_pos h1, if_neg h2, h3, ite11, ite01, if_true, if_false]
theorem gsX_X6_unit_8_q5 {NF : Nat} {v : Nat → Int32} {f : Nat → Nat → Int32} {v25 : Nat → Int32} {f26 : Nat → Nat → Int32} (h0 : ¬ ((v 2) = 2)) (h1 : ((v 2) < 116)) (h2 : ((v 2) = 40)) (h3 : ((v 17) < 30)) (h4 : gsX_X6_refuse_1 NF v f = (1, v25, f26)) : gsX_X6_unit_8 NF v f = (1, v25, f26) := by
  simp only [gsX_X6_unit_8, if_neg h0, if_pos h1, if_pos h2, if_pos h3, h4, ite11, ite01, if_true, if_false]
theorem gsX_X6_unit_8_q6 {NF : Nat} {v : Nat → Int32} {f : Nat → Nat → Int32} {v25 : Nat → Int32} {f26 : Nat → Nat → Int32} (h0 : ¬ ((v 2) = 2)) (h1 : ((v 2) < 116)) (h2 : ((v 2) = 40)) (h3 : ((v 17) < 30)) (h4 : gsX_X6_refuse_1 NF v f = (0, v25, f26)) : gsX_X6_unit_8 NF v f = (0, v25, f26) := by
  simp only [gsX_X6_unit_8, if_neg h0, if_pos h1, if_pos h2, if_pos h3, h4, ite11, ite01, if_true, if_false]
theorem gsX_X6_unit_8_q7 {NF : Nat} {v : Nat → Int32} {f : Nat → Nat → Int32} {v30 : Nat → Int32} {f31 : Nat → Nat → Int32} (h0 : ¬ ((v 2) = 2)) (h1 : ((v 2) < 116)) (h2 : ((v 2) = 40)) (h3 : ¬ ((v 17) < 30)) (h4 : gsX_X6_refuse_1 NF v f = (1, v30, f31)) : gsX_X6_unit_8 NF v f = (1, v30, f31) := by
  simp only [gsX_X6_unit_8, if_neg h0, if_pos h1, if_pos h2, if_neg h3, h4, ite11, ite01, if_true, if_false]
theorem gsX_X6_unit_8_q8 {NF : Nat} {v : Nat → Int32} {f : Nat → Nat → Int32} {v30 : Nat → Int32} {f31 : Nat → Nat → Int32} (h0 : ¬ ((v 2) = 2)) (h1 : ((v 2) < 116)) (h2 : ((v 2) = 40)) (h3 : ¬ ((v 17) < 30)) (h4 : gsX_X6_refuse_1 NF v f = (0, v30, f31)) : gsX_X6_unit_8 NF v f = (0, v30, f31) := by
  simp only [gsX_X6_unit_8, if_neg h0, if_pos h1, if_pos h2, if_neg h3, h4, ite11, ite01, if_true, if_false]
theorem gsX_X6_unit_8_q9 {NF : Nat} {v : Nat → Int32} {f : Nat → Nat → Int32} {v37 : Nat → Int32} {f38 : Nat → Nat → Int32} (h0 : ¬ ((v 2) = 2)) (h1 : ¬ ((v 2) < 116)) (h2 : (121 < (v 2))) (h3 : ¬ ((v 2) = 40)) (h4 : gsX_X6_refuse_1 NF v f = (1, v37, f38)) : gsX_X6_unit_8 NF v f = (1, v37, f38) := by
  simp only [gsX_X6_unit_8, if_neg h0, if_neg h1, if_pos h2, if_neg h3, h4, ite11, ite01, if_true, if_false]
theorem gsX_X6_unit_8_q10 {NF : Nat} {v : Nat → Int32} {f : Nat → Nat → Int32} {v37 : Nat → Int32} {f38 : Nat → Nat → Int32} (h0 : ¬ ((v 2) = 2)) (h1 : ¬ ((v 2) < 116)) (h2 : (121 < (v 2))) (h3 : ¬ ((v 2) = 40)) (h4 : gsX_X6_refuse_1 NF v f = (0, v37, f38)) : gsX_X6_unit_8 NF v f = (0, v37, f38) := by
  simp only [gsX_X6_unit_8, if_neg h0, if_neg h1, if_pos h2, if_neg h3, h4, ite11, ite01, if_true, if_false]
theorem gsX_X6_unit_8_q11 {NF : Nat} {v : Nat → Int32} {f : Nat → Nat → Int32} {v43 : Nat → Int32} {f44 : Nat → Nat → Int32} (h0 : ¬ ((v 2) = 2)) (h1 : ¬ ((v 2) < 116)) (h2 : (121 < (v 2))) (h3 : ((v 2) = 40)) (h4 : ((v 17) < 30)) (h5 : gsX_X6_refuse_1 NF v f = (1, v43, f44)) : gsX_X6_unit_8 NF v f = (1, v43, f44) := by
  simp only [gsX_X6_unit_8, if_neg h0, if_neg h1, if_pos h2, if_pos h3, if_pos h4, h5, ite11, ite01, if_true, if_false]
theorem gsX_X6_unit_8_q12 {NF : Nat} {v : Nat → Int32} {f : Nat → Nat → Int32} {v43 : Nat → Int32} {f44 : Nat → Nat → Int32} (h0 : ¬ ((v 2) = 2)) (h1 : ¬ ((v 2) < 116)) (h2 : (121 < (v 2))) (h3 : ((v 2) = 40)) (h4 : ((v 17) < 30)) (h5 : gsX_X6_refuse_1 NF v f = (0, v43, f44)) : gsX_X6_unit_8 NF v f = (0, v43, f44) := by
  simp only [gsX_X6_unit_8, if_neg h0, if_neg h1, if_pos h2, if_pos h3, if_pos h4, h5, ite11, ite01, if_true, if_false]
theorem gsX_X6_unit_8_q13 {NF : Nat} {v : Nat → Int32} {f : Nat → Nat → Int32} {v48 : Nat → Int32} {f49 : Nat → Nat → Int32} (h0 : ¬ ((v 2) = 2)) (h1 : ¬ ((v 2) < 116)) (h2 : (121 < (v 2))) (h3 : ((v 2) = 40)) (h4 : ¬ ((v 17) < 30)) (h5 : gsX_X6_refuse_1 NF v f = (1, v48, f49)) : gsX_X6_unit_8 NF v f = (1, v48, f49) := by
  simp only [gsX_X6_unit_8, if_neg h0, if_neg h1, if_pos h2, if_pos h3, if_neg h4, h5, ite11, ite01, if_true, if_false]
theorem gsX_X6_unit_8_q14 {NF : Nat} {v : Nat → Int32} {f : Nat → Nat → Int32} {v48 : Nat → Int32} {f49 : Nat → Nat → Int32} (h0 : ¬ ((v 2) = 2)) (h1 : ¬ ((v 2) < 116)) (h2 : (121 < (v 2))) (h3 : ((v 2) = 40)) (h4 : ¬ ((v 17) < 30)) (h5 : gsX_X6_refuse_1 NF v f = (0, v48, f49)) : gsX_X6_unit_8 NF v f = (0, v48, f49) := by
  simp only [gsX_X6_unit_8, if_neg h0, if_neg h1, if_pos h2, if_pos h3, if_neg h4, h5, ite11, ite01, if_true, if_false]
theorem gsX_X6_unit_8_q15 {NF : Nat} {v : Nat → Int32} {f : Nat → Nat → Int32} {v53 : Nat → Int32} {f54 : Nat → Nat → Int32} {t55 : Int32} {v57 : Nat → Int32} {f58 : Nat → Nat → Int32} (h0 : ¬ ((v 2) = 2)) (h1 : ¬ ((v 2) < 116)) (h2 : ¬ (121 < (v 2))) (h3 : ((v 17) < 30)) (h4 : gsX_X4_add_1 NF (v 2) (v 5) v f = (v53, f54)) (h5 : t55 = (v53 17) + 1) (h6 : gsX_X9_advance_1 NF (upd v53 17 t55) f54 = (v57, f58)) : gsX_X6_unit_8 NF v f = (1, v57, f58) := by
  subst h5
  simp only [gsX_X6_unit_8, if_neg h0, if_neg h1, if_neg h2, if_pos h3, h4, h6]
theorem gsX_X6_unit_8_q16 {NF : Nat} {v : Nat → Int32} {f : Nat → Nat → Int32} {v61 : Nat → Int32} {f62 : Nat → Nat → Int32} (h0 : ¬ ((v 2) = 2)) (h1 : ¬ ((v 2) < 116)) (h2 : ¬ (121 < (v 2))) (h3 : ¬ ((v 17) < 30)) (h4 : gsX_X6_refuse_1 NF v f = (1, v61, f62)) : gsX_X6_unit_8 NF v f = (1, v61, f62) := by
  simp only [gsX_X6_unit_8, if_neg h0, if_neg h1, if_neg h2, if_neg h3, h4, ite11, ite01, if_true, if_false]
theorem gsX_X6_unit_8_q17 {NF : Nat} {v : Nat → Int32} {f : Nat → Nat → Int32} {v61 : Nat → Int32} {f62 : Nat → Nat → Int32} (h0 : ¬ ((v 2) = 2)) (h1 : ¬ ((v 2) < 116)) (h2 : ¬ (121 < (v 2))) (h3 : ¬ ((v 17) < 30)) (h4 : gsX_X6_refuse_1 NF v f = (0, v61, f62)) : gsX_X6_unit_8 NF v f = (0, v61, f62) := by
  simp only [gsX_X6_unit_8, if_neg h0, if_neg h1, if_neg h2, if_neg h3, h4, ite11, ite01, if_true, if_false]
def gsX_X6_expression_48 (NF : Nat) (v : Nat → Int32) (f : Nat → Nat → Int32) : Int32 × (Nat → Int32) × (Nat → Nat → Int32) :=
  match gsX_X6_unit_8 NF v f with
  | (r1, v3, f4) =>
    if r1 = 1 then
      (1, v3, f4)
    else
      (0, v3, f4)
theorem gsX_X6_expression_48_q0 {NF : Nat} {v : Nat → Int32} {f : Nat → Nat → Int32} {v3 : Nat → Int32} {f4 : Nat → Nat → Int32} (h0 : gsX_X6_unit_8 NF v f = (1, v3, f4)) : gsX_X6_expression_48 NF v f = (1, v3, f4) := by
  simp only [gsX_X6_expression_48, h0, ite11, ite01, if_true, if_false]
theorem gsX_X6_expression_48_q1 {NF : Nat} {v : Nat → Int32} {f : Nat → Nat → Int32} {v3 : Nat → Int32} {f4 : Nat → Nat → Int32} (h0 : gsX_X6_unit_8 NF v f = (0, v3, f4)) : gsX_X6_expression_48 NF v f = (0, v3, f4) := by
  simp only [gsX_X6_expression_48, h0, ite11, ite01, if_true, if_false]
def gsX_X6_joins_1 (NF : Nat) (p0 : Int32) (p1 : Int32) (v : Nat → Int32) (f : Nat → Nat → Int32) : Int32 :=
  if p0 = 0 then
    if p1 = 113 then
      1
    else
      0
  else
    if p0 = 1 then
      if p1 = 114 then
        1
      else
        0
    else
      if p0 = 2 then
        if p1 = 60 then
          1
        else
          if p1 = 62 then
            1
          else
            if p1 = 61 then
              1
            else
              0
      else
        if p0 = 3 then
          if p1 = 43 then
            1
          else
            if p1 = 45 then
              1
            else
              0
        else
          if p0 = 4 then
            if p1 = 42 then
              1
            else
              if p1 = 47 then
                1
              else
                if p1 = 37 then
                  1
                else
                  0
          else
            0
theorem gsX_X6_joins_1_q0 {NF : Nat} {p0 : Int32} {p1 : Int32} {v : Nat → Int32} {f : Nat → Nat → Int32} (h0 : (p0 = 0)) (h1 : ¬ (p1 = 113)) : gsX_X6_joins_1 NF p0 p1 v f = 0 := by
  simp only [gsX_X6_joins_1, if_pos h0, if_neg h1]
theorem gsX_X6_joins_1_q1 {NF : Nat} {p0 : Int32} {p1 : Int32} {v : Nat → Int32} {f : Nat → Nat → Int32} (h0 : (p0 = 0)) (h1 : (p1 = 113)) : gsX_X6_joins_1 NF p0 p1 v f = 1 := by
  simp only [gsX_X6_joins_1, if_pos h0, if_pos h1]
theorem gsX_X6_joins_1_q2 {NF : Nat} {p0 : Int32} {p1 : Int32} {v : Nat → Int32} {f : Nat → Nat → Int32} (h0 : ¬ (p0 = 0)) (h1 : (p0 = 1)) (h2 : ¬ (p1 = 114)) : gsX_X6_joins_1 NF p0 p1 v f = 0 := by
  simp only [gsX_X6_joins_1, if_neg h0, if_pos h1, if_neg h2]
theorem gsX_X6_joins_1_q3 {NF : Nat} {p0 : Int32} {p1 : Int32} {v : Nat → Int32} {f : Nat → Nat → Int32} (h0 : ¬ (p0 = 0)) (h1 : (p0 = 1)) (h2 : (p1 = 114)) : gsX_X6_joins_1 NF p0 p1 v f = 1 := by
  simp only [gsX_X6_joins_1, if_neg h0, if_pos h1, if_pos h2]
theorem gsX_X6_joins_1_q4 {NF : Nat} {p0 : Int32} {p1 : Int32} {v : Nat → Int32} {f : Nat → Nat → Int32} (h0 : ¬ (p0 = 0)) (h1 : ¬ (p0 = 1)) (h2 : (p0 = 2)) (h3 : (p1 = 60)) : gsX_X6_joins_1 NF p0 p1 v f = 1 := by
  simp only [gsX_X6_joins_1, if_neg h0, if_neg h1, if_pos h2, if_pos h3]
theorem gsX_X6_joins_1_q5 {NF : Nat} {p0 : Int32} {p1 : Int32} {v : Nat → Int32} {f : Nat → Nat → Int32} (h0 : ¬ (p0 = 0)) (h1 : ¬ (p0 = 1)) (h2 : (p0 = 2)) (h3 : ¬ (p1 = 60)) (h4 : (p1 = 62)) : gsX_X6_joins_1 NF p0 p1 v f = 1 := by
  simp only [gsX_X6_joins_1, if_neg h0, if_neg h1, if_pos h2, if_neg h3, if_pos h4]
theorem gsX_X6_joins_1_q6 {NF : Nat} {p0 : Int32} {p1 : Int32} {v : Nat → Int32} {f : Nat → Nat → Int32} (h0 : ¬ (p0 = 0)) (h1 : ¬ (p0 = 1)) (h2 : (p0 = 2)) (h3 : ¬ (p1 = 60)) (h4 : ¬ (p1 = 62)) (h5 : ¬ (p1 = 61)) : gsX_X6_joins_1 NF p0 p1 v f = 0 := by
  simp only [gsX_X6_joins_1, if_neg h0, if_neg h1, if_pos h2, if_neg h3, if_neg h4, if_neg h5]
theorem gsX_X6_joins_1_q7 {NF : Nat} {p0 : Int32} {p1 : Int32} {v : Nat → Int32} {f : Nat → Nat → Int32} (h0 : ¬ (p0 = 0)) (h1 : ¬ (p0 = 1)) (h2 : (p0 = 2)) (h3 : ¬ (p1 = 60)) (h4 : ¬ (p1 = 62)) (h5 : (p1 = 61)) : gsX_X6_joins_1 NF p0 p1 v f = 1 := by
  simp only [gsX_X6_joins_1, if_neg h0, if_neg h1, if_pos h2, if_neg h3, if_neg h4, if_pos h5]
theorem gsX_X6_joins_1_q8 {NF : Nat} {p0 : Int32} {p1 : Int32} {v : Nat → Int32} {f : Nat → Nat → Int32} (h0 : ¬ (p0 = 0)) (h1 : ¬ (p0 = 1)) (h2 : ¬ (p0 = 2)) (h3 : (p0 = 3)) (h4 : (p1 = 43)) : gsX_X6_joins_1 NF p0 p1 v f = 1 := by
  simp only [gsX_X6_joins_1, if_neg h0, if_neg h1, if_neg h2, if_pos h3, if_pos h4]
theorem gsX_X6_joins_1_q9 {NF : Nat} {p0 : Int32} {p1 : Int32} {v : Nat → Int32} {f : Nat → Nat → Int32} (h0 : ¬ (p0 = 0)) (h1 : ¬ (p0 = 1)) (h2 : ¬ (p0 = 2)) (h3 : (p0 = 3)) (h4 : ¬ (p1 = 43)) (h5 : ¬ (p1 = 45)) : gsX_X6_joins_1 NF p0 p1 v f = 0 := by
  simp only [gsX_X6_joins_1, if_neg h0, if_neg h1, if_neg h2, if_pos h3, if_neg h4, if_neg h5]
theorem gsX_X6_joins_1_q10 {NF : Nat} {p0 : Int32} {p1 : Int32} {v : Nat → Int32} {f : Nat → Nat → Int32} (h0 : ¬ (p0 = 0)) (h1 : ¬ (p0 = 1)) (h2 : ¬ (p0 = 2)) (h3 : (p0 = 3)) (h4 : ¬ (p1 = 43)) (h5 : (p1 = 45)) : gsX_X6_joins_1 NF p0 p1 v f = 1 := by
  simp only [gsX_X6_joins_1, if_neg h0, if_neg h1, if_neg h2, if_pos h3, if_neg h4, if_pos h5]
theorem gsX_X6_joins_1_q11 {NF : Nat} {p0 : Int32} {p1 : Int32} {v : Nat → Int32} {f : Nat → Nat → Int32} (h0 : ¬ (p0 = 0)) (h1 : ¬ (p0 = 1)) (h2 : ¬ (p0 = 2)) (h3 : ¬ (p0 = 3)) (h4 : (p0 = 4)) (h5 : (p1 = 42)) : gsX_X6_joins_1 NF p0 p1 v f = 1 := by
  simp only [gsX_X6_joins_1, if_neg h0, if_neg h1, if_neg h2, if_neg h3, if_pos h4, if_pos h5]
theorem gsX_X6_joins_1_q12 {NF : Nat} {p0 : Int32} {p1 : Int32} {v : Nat → Int32} {f : Nat → Nat → Int32} (h0 : ¬ (p0 = 0)) (h1 : ¬ (p0 = 1)) (h2 : ¬ (p0 = 2)) (h3 : ¬ (p0 = 3)) (h4 : (p0 = 4)) (h5 : ¬ (p1 = 42)) (h6 : (p1 = 47)) : gsX_X6_joins_1 NF p0 p1 v f = 1 := by
  simp only [gsX_X6_joins_1, if_neg h0, if_neg h1, if_neg h2, if_neg h3, if_pos h4, if_neg h5, if_pos h6]
theorem gsX_X6_joins_1_q13 {NF : Nat} {p0 : Int32} {p1 : Int32} {v : Nat → Int32} {f : Nat → Nat → Int32} (h0 : ¬ (p0 = 0)) (h1 : ¬ (p0 = 1)) (h2 : ¬ (p0 = 2)) (h3 : ¬ (p0 = 3)) (h4 : (p0 = 4)) (h5 : ¬ (p1 = 42)) (h6 : ¬ (p1 = 47)) (h7 : ¬ (p1 = 37)) : gsX_X6_joins_1 NF p0 p1 v f = 0 := by
  simp only [gsX_X6_joins_1, if_neg h0, if_neg h1, if_neg h2, if_neg h3, if_pos h4, if_neg h5, if_neg h6, if_neg h7]
theorem gsX_X6_joins_1_q14 {NF : Nat} {p0 : Int32} {p1 : Int32} {v : Nat → Int32} {f : Nat → Nat → Int32} (h0 : ¬ (p0 = 0)) (h1 : ¬ (p0 = 1)) (h2 : ¬ (p0 = 2)) (h3 : ¬ (p0 = 3)) (h4 : (p0 = 4)) (h5 : ¬ (p1 = 42)) (h6 : ¬ (p1 = 47)) (h7 : (p1 = 37)) : gsX_X6_joins_1 NF p0 p1 v f = 1 := by
  simp only [gsX_X6_joins_1, if_neg h0, if_neg h1, if_neg h2, if_neg h3, if_pos h4, if_neg h5, if_neg h6, if_pos h7]
theorem gsX_X6_joins_1_q15 {NF : Nat} {p0 : Int32} {p1 : Int32} {v : Nat → Int32} {f : Nat → Nat → Int32} (h0 : ¬ (p0 = 0)) (h1 : ¬ (p0 = 1)) (h2 : ¬ (p0 = 2)) (h3 : ¬ (p0 = 3)) (h4 : ¬ (p0 = 4)) : gsX_X6_joins_1 NF p0 p1 v f = 0 := by
  simp only [gsX_X6_joins_1, if_neg h0, if_neg h1, if_neg h2, if_neg h3, if_neg h4]
