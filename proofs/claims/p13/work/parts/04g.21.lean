def gsX_X6_expression_1_L6 (NF : Nat) : Nat → (Int32) → (Nat → Int32) → (Nat → Nat → Int32) → Int32 × (Nat → Int32) × (Nat → Nat → Int32)
  | 0, _, _, _ => (0, (fun _ => 0), (fun _ _ => 0))
  | n6 + 1, l4_6, v6, f6 =>
    if 1600 ≤ l4_6 then
      (1, v6, f6)
    else
      if gsX_X6_joins_1 NF 0 (v6 2) v6 f6 = 1 then
        match gsX_X9_advance_1 NF v6 f6 with
        | (v12, f13) =>
          match gsX_X6_expression_2 NF v12 f13 with
          | (r14, v16, f17) =>
            if r14 = 1 then
              match gsX_X4_add_1 NF (v6 2) 0 v16 f17 with
              | (v20, f21) =>
                let t22 : Int32 := l4_6 + 1
                gsX_X6_expression_1_L6 NF n6 t22 v20 f21
            else
              (0, v16, f17)
      else
        (1, v6, f6)
def gsX_X6_expression_1 (NF : Nat) (v : Nat → Int32) (f : Nat → Nat → Int32) : Int32 × (Nat → Int32) × (Nat → Nat → Int32) :=
  match gsX_X6_expression_2 NF v f with
  | (r1, v3, f4) =>
    if r1 = 1 then
      gsX_X6_expression_1_L6 NF (4294967296 + NF) 0 v3 f4
    else
      (0, v3, f4)
theorem gsX_X6_expression_1_q4 {NF : Nat} {v : Nat → Int32} {f : Nat → Nat → Int32} {v3 : Nat → Int32} {f4 : Nat → Nat → Int32} (h0 : gsX_X6_expression_2 NF v f = (1, v3, f4)) : gsX_X6_expression_1 NF v f = gsX_X6_expression_1_L6 NF (4294967296 + NF) 0 v3 f4 := by
  simp only [gsX_X6_expression_1, h0, ite11, ite01, if_true, if_false]
theorem gsX_X6_expression_1_q5 {NF : Nat} {v : Nat → Int32} {f : Nat → Nat → Int32} {v3 : Nat → Int32} {f4 : Nat → Nat → Int32} (h0 : gsX_X6_expression_2 NF v f = (0, v3, f4)) : gsX_X6_expression_1 NF v f = (0, v3, f4) := by
  simp only [gsX_X6_expression_1, h0, ite11, ite01, if_true, if_false]
theorem gsX_X6_expression_1_q0 {NF : Nat} {n6 : Nat} {l4_6 : Int32} {v6 : Nat → Int32} {f6 : Nat → Nat → Int32} (h0 : (1600 ≤ l4_6)) : gsX_X6_expression_1_L6 NF (n6 + 1) l4_6 v6 f6 = (1, v6, f6) := by
  simp only [gsX_X6_expression_1_L6, if_pos h0]
theorem gsX_X6_expression_1_q1 {NF : Nat} {n6 : Nat} {l4_6 : Int32} {v6 : Nat → Int32} {f6 : Nat → Nat → Int32} {v12 : Nat → Int32} {f13 : Nat → Nat → Int32} {v16 : Nat → Int32} {f17 : Nat → Nat → Int32} {v20 : Nat → Int32} {f21 : Nat → Nat → Int32} {t22 : Int32} (h0 : ¬ (1600 ≤ l4_6)) (h1 : gsX_X6_joins_1 NF 0 (v6 2) v6 f6 = 1) (h2 : gsX_X9_advance_1 NF v6 f6 = (v12, f13)) (h3 : gsX_X6_expression_2 NF v12 f13 = (1, v16, f17)) (h5 : gsX_X4_add_1 NF (v6 2) 0 v16 f17 = (v20, f21)) (h6 : t22 = l4_6 + 1) : gsX_X6_expression_1_L6 NF (n6 + 1) l4_6 v6 f6 = gsX_X6_expression_1_L6 NF n6 t22 v20 f21 := by
  subst h6
  simp only [gsX_X6_expression_1_L6, if_neg h0, h1, h2, h3, h5, ite11, ite01, if_true, if_false]
theorem gsX_X6_expression_1_q2 {NF : Nat} {n6 : Nat} {l4_6 : Int32} {v6 : Nat → Int32} {f6 : Nat → Nat → Int32} {v12 : Nat → Int32} {f13 : Nat → Nat → Int32} {v16 : Nat → Int32} {f17 : Nat → Nat → Int32} (h0 : ¬ (1600 ≤ l4_6)) (h1 : gsX_X6_joins_1 NF 0 (v6 2) v6 f6 = 1) (h2 : gsX_X9_advance_1 NF v6 f6 = (v12, f13)) (h3 : gsX_X6_expression_2 NF v12 f13 = (0, v16, f17)) : gsX_X6_expression_1_L6 NF (n6 + 1) l4_6 v6 f6 = (0, v16, f17) := by
  simp only [gsX_X6_expression_1_L6, if_neg h0, h1, h2, h3, ite11, ite01, if_true, if_false]
theorem gsX_X6_expression_1_q3 {NF : Nat} {n6 : Nat} {l4_6 : Int32} {v6 : Nat → Int32} {f6 : Nat → Nat → Int32} (h0 : ¬ (1600 ≤ l4_6)) (h1 : gsX_X6_joins_1 NF 0 (v6 2) v6 f6 = 0) : gsX_X6_expression_1_L6 NF (n6 + 1) l4_6 v6 f6 = (1, v6, f6) := by
  simp only [gsX_X6_expression_1_L6, if_neg h0, h1, ite11, ite01, if_true, if_false]
def gsX_X7_set_1 (NF : Nat) (p1 : Int32) (p2 : Int32) (v : Nat → Int32) (f : Nat → Nat → Int32) : (Nat → Int32) × (Nat → Nat → Int32) :=
  if p1 = 104 then
    ((upd v 11 p2), f)
  else
    if p1 = 105 then
      ((upd v 12 p2), f)
    else
      if p1 = 106 then
        ((upd v 13 p2), f)
      else
        if p1 = 107 then
          ((upd v 14 p2), f)
        else
          ((upd v 15 p2), f)
theorem gsX_X7_set_1_q0 {NF : Nat} {p1 : Int32} {p2 : Int32} {v : Nat → Int32} {f : Nat → Nat → Int32} (h0 : (p1 = 104)) : gsX_X7_set_1 NF p1 p2 v f = ((upd v 11 p2), f) := by
  simp only [gsX_X7_set_1, if_pos h0]
theorem gsX_X7_set_1_q1 {NF : Nat} {p1 : Int32} {p2 : Int32} {v : Nat → Int32} {f : Nat → Nat → Int32} (h0 : ¬ (p1 = 104)) (h1 : (p1 = 105)) : gsX_X7_set_1 NF p1 p2 v f = ((upd v 12 p2), f) := by
  simp only [gsX_X7_set_1, if_neg h0, if_pos h1]
theorem gsX_X7_set_1_q2 {NF : Nat} {p1 : Int32} {p2 : Int32} {v : Nat → Int32} {f : Nat → Nat → Int32} (h0 : ¬ (p1 = 104)) (h1 : ¬ (p1 = 105)) (h2 : (p1 = 106)) : gsX_X7_set_1 NF p1 p2 v f = ((upd v 13 p2), f) := by
  simp only [gsX_X7_set_1, if_neg h0, if_neg h1, if_pos h2]
theorem gsX_X7_set_1_q3 {NF : Nat} {p1 : Int32} {p2 : Int32} {v : Nat → Int32} {f : Nat → Nat → Int32} (h0 : ¬ (p1 = 104)) (h1 : ¬ (p1 = 105)) (h2 : ¬ (p1 = 106)) (h3 : (p1 = 107)) : gsX_X7_set_1 NF p1 p2 v f = ((upd v 14 p2), f) := by
  simp only [gsX_X7_set_1, if_neg h0, if_neg h1, if_neg h2, if_pos h3]
theorem gsX_X7_set_1_q4 {NF : Nat} {p1 : Int32} {p2 : Int32} {v : Nat → Int32} {f : Nat → Nat → Int32} (h0 : ¬ (p1 = 104)) (h1 : ¬ (p1 = 105)) (h2 : ¬ (p1 = 106)) (h3 : ¬ (p1 = 107)) : gsX_X7_set_1 NF p1 p2 v f = ((upd v 15 p2), f) := by
  simp only [gsX_X7_set_1, if_neg h0, if_neg h1, if_neg h2, if_neg h3]
def gsX_X6_settingLine_1 (NF : Nat) (p1 : Int32) (v : Nat → Int32) (f : Nat → Nat → Int32) : Int32 × (Nat → Int32) × (Nat → Nat → Int32) :=
  match gsX_X6_opened_1 NF (v 2) v f with
  | (r1, v3, f4) =>
    if r1 = 1 then
      match gsX_X6_numbered_1 NF p1 v3 f4 with
      | (r6, v8, f9) =>
        if 0 ≤ r6 then
          match gsX_X7_set_1 NF (v 2) r6 v8 f9 with
          | (v12, f13) =>
            (1, v12, f13)
        else
          (0, v8, f9)
    else
      (0, v3, f4)
theorem gsX_X6_settingLine_1_q0 {NF : Nat} {p1 : Int32} {v : Nat → Int32} {f : Nat → Nat → Int32} {v3 : Nat → Int32} {f4 : Nat → Nat → Int32} {r6 : Int32} {v8 : Nat → Int32} {f9 : Nat → Nat → Int32} {v12 : Nat → Int32} {f13 : Nat → Nat → Int32} (h0 : gsX_X6_opened_1 NF (v 2) v f = (1, v3, f4)) (h2 : gsX_X6_numbered_1 NF p1 v3 f4 = (r6, v8, f9)) (h3 : (0 ≤ r6)) (h4 : gsX_X7_set_1 NF (v 2) r6 v8 f9 = (v12, f13)) : gsX_X6_settingLine_1 NF p1 v f = (1, v12, f13) := by
  simp only [gsX_X6_settingLine_1, h0, h2, if_pos h3, h4, ite11, ite01, if_true, if_false]
theorem gsX_X6_settingLine_1_q1 {NF : Nat} {p1 : Int32} {v : Nat → Int32} {f : Nat → Nat → Int32} {v3 : Nat → Int32} {f4 : Nat → Nat → Int32} {r6 : Int32} {v8 : Nat → Int32} {f9 : Nat → Nat → Int32} (h0 : gsX_X6_opened_1 NF (v 2) v f = (1, v3, f4)) (h2 : gsX_X6_numbered_1 NF p1 v3 f4 = (r6, v8, f9)) (h3 : ¬ (0 ≤ r6)) : gsX_X6_settingLine_1 NF p1 v f = (0, v8, f9) := by
  simp only [gsX_X6_settingLine_1, h0, h2, if_neg h3, ite11, ite01, if_true, if_false]
theorem gsX_X6_settingLine_1_q2 {NF : Nat} {p1 : Int32} {v : Nat → Int32} {f : Nat → Nat → Int32} {v3 : Nat → Int32} {f4 : Nat → Nat → Int32} (h0 : gsX_X6_opened_1 NF (v 2) v f = (0, v3, f4)) : gsX_X6_settingLine_1 NF p1 v f = (0, v3, f4) := by
  simp only [gsX_X6_settingLine_1, h0, ite11, ite01, if_true, if_false]
def gsX_X6_line_1 (NF : Nat) (v : Nat → Int32) (f : Nat → Nat → Int32) : Int32 × (Nat → Int32) × (Nat → Nat → Int32) :=
  if (v 2) = 101 then
    match gsX_X6_manLine_1 NF v f with
    | (r2, v4, f5) =>
      if r2 = 1 then
        match gsX_X6_closing_1 NF v4 f5 with
        | (r7, v9, f10) =>
          if r7 = 1 then
            (1, v9, f10)
          else
            (0, v9, f10)
      else
        (0, v4, f5)
  else
    if (v 2) = 102 then
      match gsX_X6_coatLine_1 NF v f with
      | (r13, v15, f16) =>
        if r13 = 1 then
          match gsX_X6_closing_1 NF v15 f16 with
          | (r18, v20, f21) =>
            if r18 = 1 then
              (1, v20, f21)
            else
              (0, v20, f21)
        else
          (0, v15, f16)
    else
      if (v 2) = 103 then
        match gsX_X6_opened_1 NF 103 v f with
        | (r24, v26, f27) =>
          if r24 = 1 then
            match gsX_X6_expression_1 NF v26 f27 with
            | (r29, v31, f32) =>
              if r29 = 1 then
                match gsX_X6_closing_1 NF v31 f32 with
                | (r34, v36, f37) =>
                  if r34 = 1 then
                    (1, v36, f37)
                  else
                    (0, v36, f37)
              else
                (0, v31, f32)
          else
            (0, v26, f27)
      else
        if (v 2) = 104 then
          match gsX_X6_settingLine_1 NF 999 v f with
          | (r40, v42, f43) =>
            if r40 = 1 then
              match gsX_X6_closing_1 NF v42 f43 with
              | (r45, v47, f48) =>
                if r45 = 1 then
                  (1, v47, f48)
                else
                  (0, v47, f48)
            else
              (0, v42, f43)
        else
          if (v 2) = 105 then
            match gsX_X6_settingLine_1 NF 999 v f with
            | (r51, v53, f54) =>
              if r51 = 1 then
                match gsX_X6_closing_1 NF v53 f54 with
                | (r56, v58, f59) =>
                  if r56 = 1 then
                    (1, v58, f59)
                  else
                    (0, v58, f59)
              else
                (0, v53, f54)
          else
            if (v 2) = 106 then
              match gsX_X6_settingLine_1 NF 99 v f with
              | (r62, v64, f65) =>
                if r62 = 1 then
                  match gsX_X6_closing_1 NF v64 f65 with
                  | (r67, v69, f70) =>
                    if r67 = 1 then
                      (1, v69, f70)
                    else
                      (0, v69, f70)
                else
                  (0, v64, f65)
            else
              if (v 2) = 107 then
                match gsX_X6_settingLine_1 NF 100 v f with
                | (r73, v75, f76) =>
                  if r73 = 1 then
                    match gsX_X6_closing_1 NF v75 f76 with
                    | (r78, v80, f81) =>
                      if r78 = 1 then
                        (1, v80, f81)
                      else
                        (0, v80, f81)
                  else
                    (0, v75, f76)
              else
                if (v 2) = 108 then
                  match gsX_X6_settingLine_1 NF 999 v f with
                  | (r84, v86, f87) =>
                    if r84 = 1 then
                      match gsX_X6_closing_1 NF v86 f87 with
                      | (r89, v91, f92) =>
                        if r89 = 1 then
                          (1, v91, f92)
                        else
                          (0, v91, f92)
                    else
                      (0, v86, f87)
                else
                  match gsX_X6_refuse_1 NF v f with
                  | (r94, v96, f97) =>
                    if r94 = 1 then
                      (1, v96, f97)
                    else
                      (0, v96, f97)
theorem gsX_X6_line_1_q0 {NF : Nat} {v : Nat → Int32} {f : Nat → Nat → Int32} {v4 : Nat → Int32} {f5 : Nat → Nat → Int32} {v9 : Nat → Int32} {f10 : Nat → Nat → Int32} (h0 : ((v 2) = 101)) (h1 : gsX_X6_manLine_1 NF v f = (1, v4, f5)) (h3 : gsX_X6_closing_1 NF v4 f5 = (1, v9, f10)) : gsX_X6_line_1 NF v f = (1, v9, f10) := by
  simp only [gsX_X6_line_1, if_pos h0, h1, h3, ite11, ite01, if_true, if_false]
theorem gsX_X6_line_1_q1 {NF : Nat} {v : Nat → Int32} {f : Nat → Nat → Int32} {v4 : Nat → Int32} {f5 : Nat → Nat → Int32} {v9 : Nat → Int32} {f10 : Nat → Nat → Int32} (h0 : ((v 2) = 101)) (h1 : gsX_X6_manLine_1 NF v f = (1, v4, f5)) (h3 : gsX_X6_closing_1 NF v4 f5 = (0, v9, f10)) : gsX_X6_line_1 NF v f = (0, v9, f10) := by
  simp only [gsX_X6_line_1, if_pos h0, h1, h3, ite11, ite01, if_true, if_false]
theorem gsX_X6_line_1_q2 {NF : Nat} {v : Nat → Int32} {f : Nat → Nat → Int32} {v4 : Nat → Int32} {f5 : Nat → Nat → Int32} (h0 : ((v 2) = 101)) (h1 : gsX_X6_manLine_1 NF v f = (0, v4, f5)) : gsX_X6_line_1 NF v f = (0, v4, f5) := by
  simp only [gsX_X6_line_1, if_pos h0, h1, ite11, ite01, if_true, if_false]
theorem gsX_X6_line_1_q3 {NF : Nat} {v : Nat → Int32} {f : Nat → Nat → Int32} {v15 : Nat → Int32} {f16 : Nat → Nat → Int32} {v20 : Nat → Int32} {f21 : Nat → Nat → Int32} (h0 : ¬ ((v 2) = 101)) (h1 : ((v 2) = 102)) (h2 : gsX_X6_coatLine_1 NF v f = (1, v15, f16)) (h4 : gsX_X6_closing_1 NF v15 f16 = (1, v20, f21)) : gsX_X6_line_1 NF v f = (1, v20, f21) := by
  simp only [gsX_X6_line_1, if_neg h0, if_pos h1, h2, h4, ite11, ite01, if_true, if_false]
theorem gsX_X6_line_1_q4 {NF : Nat} {v : Nat → Int32} {f : Nat → Nat → Int32} {v15 : Nat → Int32} {f16 : Nat → Nat → Int32} {v20 : Nat → Int32} {f21 : Nat → Nat → Int32} (h0 : ¬ ((v 2) = 101)) (h1 : ((v 2) = 102)) (h2 : gsX_X6_coatLine_1 NF v f = (1, v15, f16)) (h4 : gsX_X6_closing_1 NF v15 f16 = (0, v20, f21)) : gsX_X6_line_1 NF v f = (0, v20, f21) := by
  simp only [gsX_X6_line_1, if_neg h0, if_pos h1, h2, h4, ite11, ite01, if_true, if_false]
theorem gsX_X6_line_1_q5 {NF : Nat} {v : Nat → Int32} {f : Nat → Nat → Int32} {v15 : Nat → Int32} {f16 : Nat → Nat → Int32} (h0 : ¬ ((v 2) = 101)) (h1 : ((v 2) = 102)) (h2 : gsX_X6_coatLine_1 NF v f = (0, v15, f16)) : gsX_X6_line_1 NF v f = (0, v15, f16) := by
  simp only [gsX_X6_line_1, if_neg h0, if_pos h1, h2, ite11, ite01, if_true, if_false]
theorem gsX_X6_line_1_q6 {NF : Nat} {v : Nat → Int32} {f : Nat → Nat → Int32} {v26 : Nat → Int32} {f27 : Nat → Nat → Int32} {v31 : Nat → Int32} {f32 : Nat → Nat → Int32} {v36 : Nat → Int32} {f37 : Nat → Nat → Int32} (h0 : ¬ ((v 2) = 101)) (h1 : ¬ ((v 2) = 102)) (h2 : ((v 2) = 103)) (h3 : gsX_X6_opened_1 NF 103 v f = (1, v26, f27)) (h5 : gsX_X6_expression_1 NF v26 f27 = (1, v31, f32)) (h7 : gsX_X6_closing_1 NF v31 f32 = (1, v36, f37)) : gsX_X6_line_1 NF v f = (1, v36, f37) := by
  simp only [gsX_X6_line_1, if_neg h0, if_neg h1, if_pos h2, h3, h5, h7, ite11, ite01, if_true, if_false]
theorem gsX_X6_line_1_q7 {NF : Nat} {v : Nat → Int32} {f : Nat → Nat → Int32} {v26 : Nat → Int32} {f27 : Nat → Nat → Int32} {v31 : Nat → Int32} {f32 : Nat → Nat → Int32} {v36 : Nat → Int32} {f37 : Nat → Nat → Int32} (h0 : ¬ ((v 2) = 101)) (h1 : ¬ ((v 2) = 102)) (h2 : ((v 2) = 103)) (h3 : gsX_X6_opened_1 NF 103 v f = (1, v26, f27)) (h5 : gsX_X6_expression_1 NF v26 f27 = (1, v31, f32)) (h7 : gsX_X6_closing_1 NF v31 f32 = (0, v36, f37)) : gsX_X6_line_1 NF v f = (0, v36, f37) := by
  simp only [gsX_X6_line_1, if_neg h0, if_neg h1, if_pos h2, h3, h5, h7, ite11, ite01, if_true, if_false]
theorem gsX_X6_line_1_q8 {NF : Nat} {v : Nat → Int32} {f : Nat → Nat → Int32} {v26 : Nat → Int32} {f27 : Nat → Nat → Int32} {v31 : Nat → Int32} {f32 : Nat → Nat → Int32} (h0 : ¬ ((v 2) = 101)) (h1 : ¬ ((v 2) = 102)) (h2 : ((v 2) = 103)) (h3 : gsX_X6_opened_1 NF 103 v f = (1, v26, f27)) (h5 : gsX_X6_expression_1 NF v26 f27 = (0, v31, f32)) : gsX_X6_line_1 NF v f = (0, v31, f32) := by
  simp only [gsX_X6_line_1, if_neg h0, if_neg h1, if_pos h2, h3, h5, ite11, ite01, if_true, if_false]
theorem gsX_X6_line_1_q9 {NF : Nat} {v : Nat → Int32} {f : Nat → Nat → Int32} {v26 : Nat → Int32} {f27 : Nat → Nat → Int32} (h0 : ¬ ((v 2) = 101)) (h1 : ¬ ((v 2) = 102)) (h2 : ((v 2) = 103)) (h3 : gsX_X6_opened_1 NF 103 v f = (0, v26, f27)) : gsX_X6_line_1 NF v f = (0, v26, f27) := by
  simp only [gsX_X6_line_1, if_neg h0, if_neg h1, if_pos h2, h3, ite11, ite01, if_true, if_false]
theorem gsX_X6_line_1_q10 {NF : Nat} {v : Nat → Int32} {f : Nat → Nat → Int32} {v42 : Nat → Int32} {f43 : Nat → Nat → Int32} {v47 : Nat → Int32} {f48 : Nat → Nat → Int32} (h0 : ¬ ((v 2) = 101)) (h1 : ¬ ((v 2) = 102)) (h2 : ¬ ((v 2) = 103)) (h3 : ((v 2) = 104)) (h4 : gsX_X6_settingLine_1 NF 999 v f = (1, v42, f43)) (h6 : gsX_X6_closing_1 NF v42 f43 = (1, v47, f48)) : gsX_X6_line_1 NF v f = (1, v47, f48) := by
  simp only [gsX_X6_line_1, if_neg h0, if_neg h1, if_neg h2, if_pos h3, h4, h6, ite11, ite01, if_true, if_false]
theorem gsX_X6_line_1_q11 {NF : Nat} {v : Nat → Int32} {f : Nat → Nat → Int32} {v42 : Nat → Int32} {f43 : Nat → Nat → Int32} {v47 : Nat → Int32} {f48 : Nat → Nat → Int32} (h0 : ¬ ((v 2) = 101)) (h1 : ¬ ((v 2) = 102)) (h2 : ¬ ((v 2) = 103)) (h3 : ((v 2) = 104)) (h4 : gsX_X6_settingLine_1 NF 999 v f = (1, v42, f43)) (h6 : gsX_X6_closing_1 NF v42 f43 = (0, v47, f48)) : gsX_X6_line_1 NF v f = (0, v47, f48) := by
  simp only [gsX_X6_line_1, if_neg h0, if_neg h1, if_neg h2, if_pos h3, h4, h6, ite11, ite01, if_true, if_false]
theorem gsX_X6_line_1_q12 {NF : Nat} {v : Nat → Int32} {f : Nat → Nat → Int32} {v42 : Nat → Int32} {f43 : Nat → Nat → Int32} (h0 : ¬ ((v 2) = 101)) (h1 : ¬ ((v 2) = 102)) (h2 : ¬ ((v 2) = 103)) (h3 : ((v 2) = 104)) (h4 : gsX_X6_settingLine_1 NF 999 v f = (0, v42, f43)) : gsX_X6_line_1 NF v f = (0, v42, f43) := by
  simp only [gsX_X6_line_1, if_neg h0, if_neg h1, if_neg h2, if_pos h3, h4, ite11, ite01, if_true, if_false]
theorem gsX_X6_line_1_q13 {NF : Nat} {v : Nat → Int32} {f : Nat → Nat → Int32} {v53 : Nat → Int32} {f54 : Nat → Nat → Int32} {v58 : Nat → Int32} {f59 : Nat → Nat → Int32} (h0 : ¬ ((v 2) = 101)) (h1 : ¬ ((v 2) = 102)) (h2 : ¬ ((v 2) = 103)) (h3 : ¬ ((v 2) = 104)) (h4 : ((v 2) = 105)) (h5 : gsX_X6_settingLine_1 NF 999 v f = (1, v53, f54)) (h7 : gsX_X6_closing_1 NF v53 f54 = (1, v58, f59)) : gsX_X6_line_1 NF v f = (1, v58, f59) := by
  simp only [gsX_X6_line_1, if_neg h0, if_neg h1, if_neg h2, if_neg h3, if_pos h4, h5, h7, ite11, ite01, if_true, if_false]
theorem gsX_X6_line_1_q14 {NF : Nat} {v : Nat → Int32} {f : Nat → Nat → Int32} {v53 : Nat → Int32} {f54 : Nat → Nat → Int32} {v58 : Nat → Int32} {f59 : Nat → Nat → Int32} (h0 : ¬ ((v 2) = 101)) (h1 : ¬ ((v 2) = 102)) (h2 : ¬ ((v 2) = 103)) (h3 : ¬ ((v 2) = 104)) (h4 : ((v 2) = 105)) (h5 : gsX_X6_settingLine_1 NF 999 v f = (1, v53, f54)) (h7 : gsX_X6_closing_1 NF v53 f54 = (0, v58, f59)) : gsX_X6_line_1 NF v f = (0, v58, f59) := by
  simp only [gsX_X6_line_1, if_neg h0, if_neg h1, if_neg h2, if_neg h3, if_pos h4, h5, h7, ite11, ite01, if_true, if_false]
theorem gsX_X6_line_1_q15 {NF : Nat} {v : Nat → Int32} {f : Nat → Nat → Int32} {v53 : Nat → Int32} {f54 : Nat → Nat → Int32} (h0 : ¬ ((v 2) = 101)) (h1 : ¬ ((v 2) = 102)) (h2 : ¬ ((v 2) = 103)) (h3 : ¬ ((v 2) = 104)) (h4 : ((v 2) = 105)) (h5 : gsX_X6_settingLine_1 NF 999 v f = (0, v53, f54)) : gsX_X6_line_1 NF v f = (0, v53, f54) := by
  simp only [gsX_X6_line_1, if_neg h0, if_neg h1, if_neg h2, if_neg h3, if_pos h4, h5, ite11, ite01, if_true, if_false]
theorem gsX_X6_line_1_q16 {NF : Nat} {v : Nat → Int32} {f : Nat → Nat → Int32} {v64 : Nat → Int32} {f65 : Nat → Nat → Int32} {v69 : Nat → Int32} {f70 : Nat → Nat → Int32} (h0 : ¬ ((v 2) = 101)) (h1 : ¬ ((v 2) = 102)) (h2 : ¬ ((v 2) = 103)) (h3 : ¬ ((v 2) = 104)) (h4 : ¬ ((v 2) = 105)) (h5 : ((v 2) = 106)) (h6 : gsX_X6_settingLine_1 NF 99 v f = (1, v64, f65)) (h8 : gsX_X6_closing_1 NF v64 f65 = (1, v69, f70)) : gsX_X6_line_1 NF v f = (1, v69, f70) := by
  simp only [gsX_X6_line_1, if_neg h0, if_neg h1, if_neg h2, if_neg h3, if_neg h4, if_pos h5, h6, h8, ite11, ite01, if_true, if_false]
theorem gsX_X6_line_1_q17 {NF : Nat} {v : Nat → Int32} {f : Nat → Nat → Int32} {v64 : Nat → Int32} {f65 : Nat → Nat → Int32} {v69 : Nat → Int32} {f70 : Nat → Nat → Int32} (h0 : ¬ ((v 2) = 101)) (h1 : ¬ ((v 2) = 102)) (h2 : ¬ ((v 2) = 103)) (h3 : ¬ ((v 2) = 104)) (h4 : ¬ ((v 2) = 105)) (h5 : ((v 2) = 106)) (h6 : gsX_X6_settingLine_1 NF 99 v f = (1, v64, f65)) (h8 : gsX_X6_closing_1 NF v64 f65 = (0, v69, f70)) : gsX_X6_line_1 NF v f = (0, v69, f70) := by
  simp only [gsX_X6_line_1, if_neg h0, if_neg h1, if_neg h2, if_neg h3, if_neg h4, if_pos h5, h6, h8, ite11, ite01, if_true, if_false]
theorem gsX_X6_line_1_q18 {NF : Nat} {v : Nat → Int32} {f : Nat → Nat → Int32} {v64 : Nat → Int32} {f65 : Nat → Nat → Int32} (h0 : ¬ ((v 2) = 101)) (h1 : ¬ ((v 2) = 102)) (h2 : ¬ ((v 2) = 103)) (h3 : ¬ ((v 2) = 104)) (h4 : ¬ ((v 2) = 105)) (h5 : ((v 2) = 106)) (h6 : gsX_X6_settingLine_1 NF 99 v f = (0, v64, f65)) : gsX_X6_line_1 NF v f = (0, v64, f65) := by
  simp only [gsX_X6_line_1, if_neg h0, if_neg h1, if_neg h2, if_neg h3, if_neg h4, if_pos h5, h6, ite11, ite01, if_true, if_false]
theorem gsX_X6_line_1_q19 {NF : Nat} {v : Nat → Int32} {f : Nat → Nat → Int32} {v75 : Nat → Int32} {f76 : Nat → Nat → Int32} {v80 : Nat → Int32} {f81 : Nat → Nat → Int32} (h0 : ¬ ((v 2) = 101)) (h1 : ¬ ((v 2) = 102)) (h2 : ¬ ((v 2) = 103)) (h3 : ¬ ((v 2) = 104)) (h4 : ¬ ((v 2) = 105)) (h5 : ¬ ((v 2) = 106)) (h6 : ((v 2) = 107)) (h7 : gsX_X6_settingLine_1 NF 100 v f = (1, v75, f76)) (h9 : gsX_X6_closing_1 NF v75 f76 = (1, v80, f81)) : gsX_X6_line_1 NF v f = (1, v80, f81) := by
  simp only [gsX_X6_line_1, if_neg h0, if_neg h1, if_neg h2, if_neg h3, if_neg h4, if_neg h5, if_pos h6, h7, h9, ite11, ite01, if_true, if_false]
theorem gsX_X6_line_1_q20 {NF : Nat} {v : Nat → Int32} {f : Nat → Nat → Int32} {v75 : Nat → Int32} {f76 : Nat → Nat → Int32} {v80 : Nat → Int32} {f81 : Nat → Nat → Int32} (h0 : ¬ ((v 2) = 101)) (h1 : ¬ ((v 2) = 102)) (h2 : ¬ ((v 2) = 103)) (h3 : ¬ ((v 2) = 104)) (h4 : ¬ ((v 2) = 105)) (h5 : ¬ ((v 2) = 106)) (h6 : ((v 2) = 107)) (h7 : gsX_X6_settingLine_1 NF 100 v f = (1, v75, f76)) (h9 : gsX_X6_closing_1 NF v75 f76 = (0, v80, f81)) : gsX_X6_line_1 NF v f = (0, v80, f81) := by
  simp only [gsX_X6_line_1, if_neg h0, if_neg h1, if_neg h2, if_neg h3, if_neg h4, if_neg h5, if_pos h6, h7, h9, ite11, ite01, if_true, if_false]
theorem gsX_X6_line_1_q21 {NF : Nat} {v : Nat → Int32} {f : Nat → Nat → Int32} {v75 : Nat → Int32} {f76 : Nat → Nat → Int32} (h0 : ¬ ((v 2) = 101)) (h1 : ¬ ((v 2) = 102)) (h2 : ¬ ((v 2) = 103)) (h3 : ¬ ((v 2) = 104)) (h4 : ¬ ((v 2) = 105)) (h5 : ¬ ((v 2) = 106)) (h6 : ((v 2) = 107)) (h7 : gsX_X6_settingLine_1 NF 100 v f = (0, v75, f76)) : gsX_X6_line_1 NF v f = (0, v75, f76) := by
  simp only [gsX_X6_line_1, if_neg h0, if_neg h1, if_neg h2, if_neg h3, if_neg h4, if_neg h5, if_pos h6, h7, ite11, ite01, if_true, if_false]
theorem gsX_X6_line_1_q22 {NF : Nat} {v : Nat → Int32} {f : Nat → Nat → Int32} {v86 : Nat → Int32} {f87 : Nat → Nat → Int32} {v91 : Nat → Int32} {f92 : Nat → Nat → Int32} (h0 : ¬ ((v 2) = 101)) (h1 : ¬ ((v 2) = 102)) (h2 : ¬ ((v 2) = 103)) (h3 : ¬ ((v 2) = 104)) (h4 : ¬ ((v 2) = 105)) (h5 : ¬ ((v 2) = 106)) (h6 : ¬ ((v 2) = 107)) (h7 : ((v 2) = 108)) (h8 : gsX_X6_settingLine_1 NF 999 v f = (1, v86, f87)) (h10 : gsX_X6_closing_1 NF v86 f87 = (1, v91, f92)) : gsX_X6_line_1 NF v f = (1, v91, f92) := by
  simp only [gsX_X6_line_1, if_neg h0, if_neg h1, if_neg h2, if_neg h3, if_neg h4, if_neg h5, if_neg h6, if_pos h7, h8, h10, ite11, ite01, if_true, if_false]
theorem gsX_X6_line_1_q23 {NF : Nat} {v : Nat → Int32} {f : Nat → Nat → Int32} {v86 : Nat → Int32} {f87 : Nat → Nat → Int32} {v91 : Nat → Int32} {f92 : Nat → Nat → Int32} (h0 : ¬ ((v 2) = 101)) (h1 : ¬ ((v 2) = 102)) (h2 : ¬ ((v 2) = 103)) (h3 : ¬ ((v 2) = 104)) (h4 : ¬ ((v 2) = 105)) (h5 : ¬ ((v 2) = 106)) (h6 : ¬ ((v 2) = 107)) (h7 : ((v 2) = 108)) (h8 : gsX_X6_settingLine_1 NF 999 v f = (1, v86, f87)) (h10 : gsX_X6_closing_1 NF v86 f87 = (0, v91, f92)) : gsX_X6_line_1 NF v f = (0, v91, f92) := by
  simp only [gsX_X6_line_1, if_neg h0, if_neg h1, if_neg h2, if_neg h3, if_neg h4, if_neg h5, if_neg h6, if_pos h7, h8, h10, ite11, ite01, if_true, if_false]
theorem gsX_X6_line_1_q24 {NF : Nat} {v : Nat → Int32} {f : Nat → Nat → Int32} {v86 : Nat → Int32} {f87 : Nat → Nat → Int32} (h0 : ¬ ((v 2) = 101)) (h1 : ¬ ((v 2) = 102)) (h2 : ¬ ((v 2) = 103)) (h3 : ¬ ((v 2) = 104)) (h4 : ¬ ((v 2) = 105)) (h5 : ¬ ((v 2) = 106)) (h6 : ¬ ((v 2) = 107)) (h7 : ((v 2) = 108)) (h8 : gsX_X6_settingLine_1 NF 999 v f = (0, v86, f87)) : gsX_X6_line_1 NF v f = (0, v86, f87) := by
  simp only [gsX_X6_line_1, if_neg h0, if_neg h1, if_neg h2, if_neg h3, if_neg h4, if_neg h5, if_neg h6, if_pos h7, h8, ite11, ite01, if_true, if_false]
theorem gsX_X6_line_1_q25 {NF : Nat} {v : Nat → Int32} {f : Nat → Nat → Int32} {v96 : Nat → Int32} {f97 : Nat → Nat → Int32} (h0 : ¬ ((v 2) = 101)) (h1 : ¬ ((v 2) = 102)) (h2 : ¬ ((v 2) = 103)) (h3 : ¬ ((v 2) = 104)) (h4 : ¬ ((v 2) = 105)) (h5 : ¬ ((v 2) = 106)) (h6 : ¬ ((v 2) = 107)) (h7 : ¬ ((v 2) = 108)) (h8 : gsX_X6_refuse_1 NF v f = (1, v96, f97)) : gsX_X6_line_1 NF v f = (1, v96, f97) := by
  simp only [gsX_X6_line_1, if_neg h0, if_neg h1, if_neg h2, if_neg h3, if_neg h4, if_neg h5, if_neg h6, if_neg h7, h8, ite11, ite01, if_true, if_false]
theorem gsX_X6_line_1_q26 {NF : Nat} {v : Nat → Int32} {f : Nat → Nat → Int32} {v96 : Nat → Int32} {f97 : Nat → Nat → Int32} (h0 : ¬ ((v 2) = 101)) (h1 : ¬ ((v 2) = 102)) (h2 : ¬ ((v 2) = 103)) (h3 : ¬ ((v 2) = 104)) (h4 : ¬ ((v 2) = 105)) (h5 : ¬ ((v 2) = 106)) (h6 : ¬ ((v 2) = 107)) (h7 : ¬ ((v 2) = 108)) (h8 : gsX_X6_refuse_1 NF v f = (0, v96, f97)) : gsX_X6_line_1 NF v f = (0, v96, f97) := by
  simp only [gsX_X6_line_1, if_neg h0, if_neg h1, if_neg h2, if_neg h3, if_neg h4, if_neg h5, if_neg h6, if_neg h7, h8, ite11, ite01, if_true, if_false]
