def gsX_X6_expression_12 (v : Nat → Int32) (f : Nat → Nat → Int32) : Int32 × (Nat → Int32) × (Nat → Nat → Int32) :=
  match gsX_X6_unit_2 v f with
  | (r1, v3, f4) =>
    if r1 = 1 then
      (1, v3, f4)
    else
      (0, v3, f4)
theorem gsX_X6_expression_12_q0 {v : Nat → Int32} {f : Nat → Nat → Int32} {v3 : Nat → Int32} {f4 : Nat → Nat → Int32} (h0 : gsX_X6_unit_2 v f = (1, v3, f4)) : gsX_X6_expression_12 v f = (1, v3, f4) := by
  simp only [gsX_X6_expression_12, h0, ite11, ite01]
theorem gsX_X6_expression_12_q1 {v : Nat → Int32} {f : Nat → Nat → Int32} {v3 : Nat → Int32} {f4 : Nat → Nat → Int32} (h0 : gsX_X6_unit_2 v f = (0, v3, f4)) : gsX_X6_expression_12 v f = (0, v3, f4) := by
  simp only [gsX_X6_expression_12, h0, ite11, ite01]
def gsX_X6_expression_11_L6 : Nat → (Int32) → (Nat → Int32) → (Nat → Nat → Int32) → Int32 × (Nat → Int32) × (Nat → Nat → Int32)
  | 0, _, _, _ => (0, (fun _ => 0), (fun _ _ => 0))
  | n6 + 1, l4_6, v6, f6 =>
    if 1600 ≤ l4_6 then
      (1, v6, f6)
    else
      if gsX_X6_joins_1 4 (v6 2) v6 f6 = 1 then
        match gsX_X9_advance_1 v6 f6 with
        | (v12, f13) =>
          match gsX_X6_expression_12 v12 f13 with
          | (r14, v16, f17) =>
            if r14 = 1 then
              match gsX_X4_add_1 (v6 2) 0 v16 f17 with
              | (v20, f21) =>
                let t22 : Int32 := l4_6 + 1
                gsX_X6_expression_11_L6 n6 t22 v20 f21
            else
              (0, v16, f17)
      else
        (1, v6, f6)
def gsX_X6_expression_11 (v : Nat → Int32) (f : Nat → Nat → Int32) : Int32 × (Nat → Int32) × (Nat → Nat → Int32) :=
  match gsX_X6_expression_12 v f with
  | (r1, v3, f4) =>
    if r1 = 1 then
      gsX_X6_expression_11_L6 4294967296 0 v3 f4
    else
      (0, v3, f4)
theorem gsX_X6_expression_11_q4 {v : Nat → Int32} {f : Nat → Nat → Int32} {v3 : Nat → Int32} {f4 : Nat → Nat → Int32} (h0 : gsX_X6_expression_12 v f = (1, v3, f4)) : gsX_X6_expression_11 v f = gsX_X6_expression_11_L6 4294967296 0 v3 f4 := by
  simp only [gsX_X6_expression_11, h0, ite11, ite01]
theorem gsX_X6_expression_11_q5 {v : Nat → Int32} {f : Nat → Nat → Int32} {v3 : Nat → Int32} {f4 : Nat → Nat → Int32} (h0 : gsX_X6_expression_12 v f = (0, v3, f4)) : gsX_X6_expression_11 v f = (0, v3, f4) := by
  simp only [gsX_X6_expression_11, h0, ite11, ite01]
theorem gsX_X6_expression_11_q0 {n6 : Nat} {l4_6 : Int32} {v6 : Nat → Int32} {f6 : Nat → Nat → Int32} (h0 : (1600 ≤ l4_6)) : gsX_X6_expression_11_L6 (n6 + 1) l4_6 v6 f6 = (1, v6, f6) := by
  simp only [gsX_X6_expression_11_L6, if_pos h0]
theorem gsX_X6_expression_11_q1 {n6 : Nat} {l4_6 : Int32} {v6 : Nat → Int32} {f6 : Nat → Nat → Int32} {v12 : Nat → Int32} {f13 : Nat → Nat → Int32} {v16 : Nat → Int32} {f17 : Nat → Nat → Int32} {v20 : Nat → Int32} {f21 : Nat → Nat → Int32} {t22 : Int32} (h0 : ¬ (1600 ≤ l4_6)) (h1 : gsX_X6_joins_1 4 (v6 2) v6 f6 = 1) (h2 : gsX_X9_advance_1 v6 f6 = (v12, f13)) (h3 : gsX_X6_expression_12 v12 f13 = (1, v16, f17)) (h5 : gsX_X4_add_1 (v6 2) 0 v16 f17 = (v20, f21)) (h6 : t22 = l4_6 + 1) : gsX_X6_expression_11_L6 (n6 + 1) l4_6 v6 f6 = gsX_X6_expression_11_L6 n6 t22 v20 f21 := by
  subst h6
  simp only [gsX_X6_expression_11_L6, if_neg h0, h1, h2, h3, h5, ite11, ite01]
theorem gsX_X6_expression_11_q2 {n6 : Nat} {l4_6 : Int32} {v6 : Nat → Int32} {f6 : Nat → Nat → Int32} {v12 : Nat → Int32} {f13 : Nat → Nat → Int32} {v16 : Nat → Int32} {f17 : Nat → Nat → Int32} (h0 : ¬ (1600 ≤ l4_6)) (h1 : gsX_X6_joins_1 4 (v6 2) v6 f6 = 1) (h2 : gsX_X9_advance_1 v6 f6 = (v12, f13)) (h3 : gsX_X6_expression_12 v12 f13 = (0, v16, f17)) : gsX_X6_expression_11_L6 (n6 + 1) l4_6 v6 f6 = (0, v16, f17) := by
  simp only [gsX_X6_expression_11_L6, if_neg h0, h1, h2, h3, ite11, ite01]
theorem gsX_X6_expression_11_q3 {n6 : Nat} {l4_6 : Int32} {v6 : Nat → Int32} {f6 : Nat → Nat → Int32} (h0 : ¬ (1600 ≤ l4_6)) (h1 : gsX_X6_joins_1 4 (v6 2) v6 f6 = 0) : gsX_X6_expression_11_L6 (n6 + 1) l4_6 v6 f6 = (1, v6, f6) := by
  simp only [gsX_X6_expression_11_L6, if_neg h0, h1, ite11, ite01]
def gsX_X6_expression_10_L6 : Nat → (Int32) → (Nat → Int32) → (Nat → Nat → Int32) → Int32 × (Nat → Int32) × (Nat → Nat → Int32)
  | 0, _, _, _ => (0, (fun _ => 0), (fun _ _ => 0))
  | n6 + 1, l4_6, v6, f6 =>
    if 1600 ≤ l4_6 then
      (1, v6, f6)
    else
      if gsX_X6_joins_1 3 (v6 2) v6 f6 = 1 then
        match gsX_X9_advance_1 v6 f6 with
        | (v12, f13) =>
          match gsX_X6_expression_11 v12 f13 with
          | (r14, v16, f17) =>
            if r14 = 1 then
              match gsX_X4_add_1 (v6 2) 0 v16 f17 with
              | (v20, f21) =>
                let t22 : Int32 := l4_6 + 1
                gsX_X6_expression_10_L6 n6 t22 v20 f21
            else
              (0, v16, f17)
      else
        (1, v6, f6)
def gsX_X6_expression_10 (v : Nat → Int32) (f : Nat → Nat → Int32) : Int32 × (Nat → Int32) × (Nat → Nat → Int32) :=
  match gsX_X6_expression_11 v f with
  | (r1, v3, f4) =>
    if r1 = 1 then
      gsX_X6_expression_10_L6 4294967296 0 v3 f4
    else
      (0, v3, f4)
theorem gsX_X6_expression_10_q4 {v : Nat → Int32} {f : Nat → Nat → Int32} {v3 : Nat → Int32} {f4 : Nat → Nat → Int32} (h0 : gsX_X6_expression_11 v f = (1, v3, f4)) : gsX_X6_expression_10 v f = gsX_X6_expression_10_L6 4294967296 0 v3 f4 := by
  simp only [gsX_X6_expression_10, h0, ite11, ite01]
theorem gsX_X6_expression_10_q5 {v : Nat → Int32} {f : Nat → Nat → Int32} {v3 : Nat → Int32} {f4 : Nat → Nat → Int32} (h0 : gsX_X6_expression_11 v f = (0, v3, f4)) : gsX_X6_expression_10 v f = (0, v3, f4) := by
  simp only [gsX_X6_expression_10, h0, ite11, ite01]
theorem gsX_X6_expression_10_q0 {n6 : Nat} {l4_6 : Int32} {v6 : Nat → Int32} {f6 : Nat → Nat → Int32} (h0 : (1600 ≤ l4_6)) : gsX_X6_expression_10_L6 (n6 + 1) l4_6 v6 f6 = (1, v6, f6) := by
  simp only [gsX_X6_expression_10_L6, if_pos h0]
theorem gsX_X6_expression_10_q1 {n6 : Nat} {l4_6 : Int32} {v6 : Nat → Int32} {f6 : Nat → Nat → Int32} {v12 : Nat → Int32} {f13 : Nat → Nat → Int32} {v16 : Nat → Int32} {f17 : Nat → Nat → Int32} {v20 : Nat → Int32} {f21 : Nat → Nat → Int32} {t22 : Int32} (h0 : ¬ (1600 ≤ l4_6)) (h1 : gsX_X6_joins_1 3 (v6 2) v6 f6 = 1) (h2 : gsX_X9_advance_1 v6 f6 = (v12, f13)) (h3 : gsX_X6_expression_11 v12 f13 = (1, v16, f17)) (h5 : gsX_X4_add_1 (v6 2) 0 v16 f17 = (v20, f21)) (h6 : t22 = l4_6 + 1) : gsX_X6_expression_10_L6 (n6 + 1) l4_6 v6 f6 = gsX_X6_expression_10_L6 n6 t22 v20 f21 := by
  subst h6
  simp only [gsX_X6_expression_10_L6, if_neg h0, h1, h2, h3, h5, ite11, ite01]
theorem gsX_X6_expression_10_q2 {n6 : Nat} {l4_6 : Int32} {v6 : Nat → Int32} {f6 : Nat → Nat → Int32} {v12 : Nat → Int32} {f13 : Nat → Nat → Int32} {v16 : Nat → Int32} {f17 : Nat → Nat → Int32} (h0 : ¬ (1600 ≤ l4_6)) (h1 : gsX_X6_joins_1 3 (v6 2) v6 f6 = 1) (h2 : gsX_X9_advance_1 v6 f6 = (v12, f13)) (h3 : gsX_X6_expression_11 v12 f13 = (0, v16, f17)) : gsX_X6_expression_10_L6 (n6 + 1) l4_6 v6 f6 = (0, v16, f17) := by
  simp only [gsX_X6_expression_10_L6, if_neg h0, h1, h2, h3, ite11, ite01]
theorem gsX_X6_expression_10_q3 {n6 : Nat} {l4_6 : Int32} {v6 : Nat → Int32} {f6 : Nat → Nat → Int32} (h0 : ¬ (1600 ≤ l4_6)) (h1 : gsX_X6_joins_1 3 (v6 2) v6 f6 = 0) : gsX_X6_expression_10_L6 (n6 + 1) l4_6 v6 f6 = (1, v6, f6) := by
  simp only [gsX_X6_expression_10_L6, if_neg h0, h1, ite11, ite01]
def gsX_X6_negation_7 (v : Nat → Int32) (f : Nat → Nat → Int32) : Int32 × (Nat → Int32) × (Nat → Nat → Int32) :=
  match gsX_X9_advance_1 v f with
  | (v2, f3) =>
    match gsX_X6_expression_15 v2 f3 with
    | (r4, v6, f7) =>
      if r4 = 1 then
        match gsX_X4_add_1 115 0 v6 f7 with
        | (v10, f11) =>
          (1, v10, f11)
      else
        (0, v6, f7)
theorem gsX_X6_negation_7_q0 {v : Nat → Int32} {f : Nat → Nat → Int32} {v2 : Nat → Int32} {f3 : Nat → Nat → Int32} {v6 : Nat → Int32} {f7 : Nat → Nat → Int32} {v10 : Nat → Int32} {f11 : Nat → Nat → Int32} (h0 : gsX_X9_advance_1 v f = (v2, f3)) (h1 : gsX_X6_expression_15 v2 f3 = (1, v6, f7)) (h3 : gsX_X4_add_1 115 0 v6 f7 = (v10, f11)) : gsX_X6_negation_7 v f = (1, v10, f11) := by
  simp only [gsX_X6_negation_7, h0, h1, h3, ite11, ite01]
theorem gsX_X6_negation_7_q1 {v : Nat → Int32} {f : Nat → Nat → Int32} {v2 : Nat → Int32} {f3 : Nat → Nat → Int32} {v6 : Nat → Int32} {f7 : Nat → Nat → Int32} (h0 : gsX_X9_advance_1 v f = (v2, f3)) (h1 : gsX_X6_expression_15 v2 f3 = (0, v6, f7)) : gsX_X6_negation_7 v f = (0, v6, f7) := by
  simp only [gsX_X6_negation_7, h0, h1, ite11, ite01]
def gsX_X6_expression_9_L7 : Nat → (Int32) → (Nat → Int32) → (Nat → Nat → Int32) → Int32 × (Nat → Int32) × (Nat → Nat → Int32)
  | 0, _, _, _ => (0, (fun _ => 0), (fun _ _ => 0))
  | n7 + 1, l4_7, v7, f7 =>
    if 1 ≤ l4_7 then
      (1, v7, f7)
    else
      if gsX_X6_joins_1 2 (v7 2) v7 f7 = 1 then
        match gsX_X9_advance_1 v7 f7 with
        | (v13, f14) =>
          match gsX_X6_expression_10 v13 f14 with
          | (r15, v17, f18) =>
            if r15 = 1 then
              match gsX_X4_add_1 (v7 2) 0 v17 f18 with
              | (v21, f22) =>
                let t23 : Int32 := l4_7 + 1
                gsX_X6_expression_9_L7 n7 t23 v21 f22
            else
              (0, v17, f18)
      else
        (1, v7, f7)
def gsX_X6_expression_9 (v : Nat → Int32) (f : Nat → Nat → Int32) : Int32 × (Nat → Int32) × (Nat → Nat → Int32) :=
  if (v 2) = 115 then
    match gsX_X6_negation_7 v f with
    | (r26, v28, f29) =>
      if r26 = 1 then
        (1, v28, f29)
      else
        (0, v28, f29)
  else
    match gsX_X6_expression_10 v f with
    | (r2, v4, f5) =>
      if r2 = 1 then
        gsX_X6_expression_9_L7 4294967296 0 v4 f5
      else
        (0, v4, f5)
theorem gsX_X6_expression_9_q4 {v : Nat → Int32} {f : Nat → Nat → Int32} {v4 : Nat → Int32} {f5 : Nat → Nat → Int32} (h0 : ¬ ((v 2) = 115)) (h1 : gsX_X6_expression_10 v f = (1, v4, f5)) : gsX_X6_expression_9 v f = gsX_X6_expression_9_L7 4294967296 0 v4 f5 := by
  simp only [gsX_X6_expression_9, if_neg h0, h1, ite11, ite01]
theorem gsX_X6_expression_9_q5 {v : Nat → Int32} {f : Nat → Nat → Int32} {v4 : Nat → Int32} {f5 : Nat → Nat → Int32} (h0 : ¬ ((v 2) = 115)) (h1 : gsX_X6_expression_10 v f = (0, v4, f5)) : gsX_X6_expression_9 v f = (0, v4, f5) := by
  simp only [gsX_X6_expression_9, if_neg h0, h1, ite11, ite01]
theorem gsX_X6_expression_9_q6 {v : Nat → Int32} {f : Nat → Nat → Int32} {v28 : Nat → Int32} {f29 : Nat → Nat → Int32} (h0 : ((v 2) = 115)) (h1 : gsX_X6_negation_7 v f = (1, v28, f29)) : gsX_X6_expression_9 v f = (1, v28, f29) := by
  simp only [gsX_X6_expression_9, if_pos h0, h1, ite11, ite01]
theorem gsX_X6_expression_9_q7 {v : Nat → Int32} {f : Nat → Nat → Int32} {v28 : Nat → Int32} {f29 : Nat → Nat → Int32} (h0 : ((v 2) = 115)) (h1 : gsX_X6_negation_7 v f = (0, v28, f29)) : gsX_X6_expression_9 v f = (0, v28, f29) := by
  simp only [gsX_X6_expression_9, if_pos h0, h1, ite11, ite01]
theorem gsX_X6_expression_9_q0 {n7 : Nat} {l4_7 : Int32} {v7 : Nat → Int32} {f7 : Nat → Nat → Int32} (h0 : (1 ≤ l4_7)) : gsX_X6_expression_9_L7 (n7 + 1) l4_7 v7 f7 = (1, v7, f7) := by
  simp only [gsX_X6_expression_9_L7, if_pos h0]
theorem gsX_X6_expression_9_q1 {n7 : Nat} {l4_7 : Int32} {v7 : Nat → Int32} {f7 : Nat → Nat → Int32} {v13 : Nat → Int32} {f14 : Nat → Nat → Int32} {v17 : Nat → Int32} {f18 : Nat → Nat → Int32} {v21 : Nat → Int32} {f22 : Nat → Nat → Int32} {t23 : Int32} (h0 : ¬ (1 ≤ l4_7)) (h1 : gsX_X6_joins_1 2 (v7 2) v7 f7 = 1) (h2 : gsX_X9_advance_1 v7 f7 = (v13, f14)) (h3 : gsX_X6_expression_10 v13 f14 = (1, v17, f18)) (h5 : gsX_X4_add_1 (v7 2) 0 v17 f18 = (v21, f22)) (h6 : t23 = l4_7 + 1) : gsX_X6_expression_9_L7 (n7 + 1) l4_7 v7 f7 = gsX_X6_expression_9_L7 n7 t23 v21 f22 := by
  subst h6
  simp only [gsX_X6_expression_9_L7, if_neg h0, h1, h2, h3, h5, ite11, ite01]
theorem gsX_X6_expression_9_q2 {n7 : Nat} {l4_7 : Int32} {v7 : Nat → Int32} {f7 : Nat → Nat → Int32} {v13 : Nat → Int32} {f14 : Nat → Nat → Int32} {v17 : Nat → Int32} {f18 : Nat → Nat → Int32} (h0 : ¬ (1 ≤ l4_7)) (h1 : gsX_X6_joins_1 2 (v7 2) v7 f7 = 1) (h2 : gsX_X9_advance_1 v7 f7 = (v13, f14)) (h3 : gsX_X6_expression_10 v13 f14 = (0, v17, f18)) : gsX_X6_expression_9_L7 (n7 + 1) l4_7 v7 f7 = (0, v17, f18) := by
  simp only [gsX_X6_expression_9_L7, if_neg h0, h1, h2, h3, ite11, ite01]
theorem gsX_X6_expression_9_q3 {n7 : Nat} {l4_7 : Int32} {v7 : Nat → Int32} {f7 : Nat → Nat → Int32} (h0 : ¬ (1 ≤ l4_7)) (h1 : gsX_X6_joins_1 2 (v7 2) v7 f7 = 0) : gsX_X6_expression_9_L7 (n7 + 1) l4_7 v7 f7 = (1, v7, f7) := by
  simp only [gsX_X6_expression_9_L7, if_neg h0, h1, ite11, ite01]
def gsX_X6_expression_8_L6 : Nat → (Int32) → (Nat → Int32) → (Nat → Nat → Int32) → Int32 × (Nat → Int32) × (Nat → Nat → Int32)
  | 0, _, _, _ => (0, (fun _ => 0), (fun _ _ => 0))
  | n6 + 1, l4_6, v6, f6 =>
    if 1600 ≤ l4_6 then
      (1, v6, f6)
    else
      if gsX_X6_joins_1 1 (v6 2) v6 f6 = 1 then
        match gsX_X9_advance_1 v6 f6 with
        | (v12, f13) =>
          match gsX_X6_expression_9 v12 f13 with
          | (r14, v16, f17) =>
            if r14 = 1 then
              match gsX_X4_add_1 (v6 2) 0 v16 f17 with
              | (v20, f21) =>
                let t22 : Int32 := l4_6 + 1
                gsX_X6_expression_8_L6 n6 t22 v20 f21
            else
              (0, v16, f17)
      else
        (1, v6, f6)
def gsX_X6_expression_8 (v : Nat → Int32) (f : Nat → Nat → Int32) : Int32 × (Nat → Int32) × (Nat → Nat → Int32) :=
  match gsX_X6_expression_9 v f with
  | (r1, v3, f4) =>
    if r1 = 1 then
      gsX_X6_expression_8_L6 4294967296 0 v3 f4
    else
      (0, v3, f4)
theorem gsX_X6_expression_8_q4 {v : Nat → Int32} {f : Nat → Nat → Int32} {v3 : Nat → Int32} {f4 : Nat → Nat → Int32} (h0 : gsX_X6_expression_9 v f = (1, v3, f4)) : gsX_X6_expression_8 v f = gsX_X6_expression_8_L6 4294967296 0 v3 f4 := by
  simp only [gsX_X6_expression_8, h0, ite11, ite01]
theorem gsX_X6_expression_8_q5 {v : Nat → Int32} {f : Nat → Nat → Int32} {v3 : Nat → Int32} {f4 : Nat → Nat → Int32} (h0 : gsX_X6_expression_9 v f = (0, v3, f4)) : gsX_X6_expression_8 v f = (0, v3, f4) := by
  simp only [gsX_X6_expression_8, h0, ite11, ite01]
theorem gsX_X6_expression_8_q0 {n6 : Nat} {l4_6 : Int32} {v6 : Nat → Int32} {f6 : Nat → Nat → Int32} (h0 : (1600 ≤ l4_6)) : gsX_X6_expression_8_L6 (n6 + 1) l4_6 v6 f6 = (1, v6, f6) := by
  simp only [gsX_X6_expression_8_L6, if_pos h0]
theorem gsX_X6_expression_8_q1 {n6 : Nat} {l4_6 : Int32} {v6 : Nat → Int32} {f6 : Nat → Nat → Int32} {v12 : Nat → Int32} {f13 : Nat → Nat → Int32} {v16 : Nat → Int32} {f17 : Nat → Nat → Int32} {v20 : Nat → Int32} {f21 : Nat → Nat → Int32} {t22 : Int32} (h0 : ¬ (1600 ≤ l4_6)) (h1 : gsX_X6_joins_1 1 (v6 2) v6 f6 = 1) (h2 : gsX_X9_advance_1 v6 f6 = (v12, f13)) (h3 : gsX_X6_expression_9 v12 f13 = (1, v16, f17)) (h5 : gsX_X4_add_1 (v6 2) 0 v16 f17 = (v20, f21)) (h6 : t22 = l4_6 + 1) : gsX_X6_expression_8_L6 (n6 + 1) l4_6 v6 f6 = gsX_X6_expression_8_L6 n6 t22 v20 f21 := by
  subst h6
  simp only [gsX_X6_expression_8_L6, if_neg h0, h1, h2, h3, h5, ite11, ite01]
theorem gsX_X6_expression_8_q2 {n6 : Nat} {l4_6 : Int32} {v6 : Nat → Int32} {f6 : Nat → Nat → Int32} {v12 : Nat → Int32} {f13 : Nat → Nat → Int32} {v16 : Nat → Int32} {f17 : Nat → Nat → Int32} (h0 : ¬ (1600 ≤ l4_6)) (h1 : gsX_X6_joins_1 1 (v6 2) v6 f6 = 1) (h2 : gsX_X9_advance_1 v6 f6 = (v12, f13)) (h3 : gsX_X6_expression_9 v12 f13 = (0, v16, f17)) : gsX_X6_expression_8_L6 (n6 + 1) l4_6 v6 f6 = (0, v16, f17) := by
  simp only [gsX_X6_expression_8_L6, if_neg h0, h1, h2, h3, ite11, ite01]
theorem gsX_X6_expression_8_q3 {n6 : Nat} {l4_6 : Int32} {v6 : Nat → Int32} {f6 : Nat → Nat → Int32} (h0 : ¬ (1600 ≤ l4_6)) (h1 : gsX_X6_joins_1 1 (v6 2) v6 f6 = 0) : gsX_X6_expression_8_L6 (n6 + 1) l4_6 v6 f6 = (1, v6, f6) := by
  simp only [gsX_X6_expression_8_L6, if_neg h0, h1, ite11, ite01]
def gsX_X6_expression_7_L6 : Nat → (Int32) → (Nat → Int32) → (Nat → Nat → Int32) → Int32 × (Nat → Int32) × (Nat → Nat → Int32)
  | 0, _, _, _ => (0, (fun _ => 0), (fun _ _ => 0))
  | n6 + 1, l4_6, v6, f6 =>
    if 1600 ≤ l4_6 then
      (1, v6, f6)
    else
      if gsX_X6_joins_1 0 (v6 2) v6 f6 = 1 then
        match gsX_X9_advance_1 v6 f6 with
        | (v12, f13) =>
          match gsX_X6_expression_8 v12 f13 with
          | (r14, v16, f17) =>
            if r14 = 1 then
              match gsX_X4_add_1 (v6 2) 0 v16 f17 with
              | (v20, f21) =>
                let t22 : Int32 := l4_6 + 1
                gsX_X6_expression_7_L6 n6 t22 v20 f21
            else
              (0, v16, f17)
      else
        (1, v6, f6)
def gsX_X6_expression_7 (v : Nat → Int32) (f : Nat → Nat → Int32) : Int32 × (Nat → Int32) × (Nat → Nat → Int32) :=
  match gsX_X6_expression_8 v f with
  | (r1, v3, f4) =>
    if r1 = 1 then
      gsX_X6_expression_7_L6 4294967296 0 v3 f4
    else
      (0, v3, f4)
theorem gsX_X6_expression_7_q4 {v : Nat → Int32} {f : Nat → Nat → Int32} {v3 : Nat → Int32} {f4 : Nat → Nat → Int32} (h0 : gsX_X6_expression_8 v f = (1, v3, f4)) : gsX_X6_expression_7 v f = gsX_X6_expression_7_L6 4294967296 0 v3 f4 := by
  simp only [gsX_X6_expression_7, h0, ite11, ite01]
theorem gsX_X6_expression_7_q5 {v : Nat → Int32} {f : Nat → Nat → Int32} {v3 : Nat → Int32} {f4 : Nat → Nat → Int32} (h0 : gsX_X6_expression_8 v f = (0, v3, f4)) : gsX_X6_expression_7 v f = (0, v3, f4) := by
  simp only [gsX_X6_expression_7, h0, ite11, ite01]
theorem gsX_X6_expression_7_q0 {n6 : Nat} {l4_6 : Int32} {v6 : Nat → Int32} {f6 : Nat → Nat → Int32} (h0 : (1600 ≤ l4_6)) : gsX_X6_expression_7_L6 (n6 + 1) l4_6 v6 f6 = (1, v6, f6) := by
  simp only [gsX_X6_expression_7_L6, if_pos h0]
theorem gsX_X6_expression_7_q1 {n6 : Nat} {l4_6 : Int32} {v6 : Nat → Int32} {f6 : Nat → Nat → Int32} {v12 : Nat → Int32} {f13 : Nat → Nat → Int32} {v16 : Nat → Int32} {f17 : Nat → Nat → Int32} {v20 : Nat → Int32} {f21 : Nat → Nat → Int32} {t22 : Int32} (h0 : ¬ (1600 ≤ l4_6)) (h1 : gsX_X6_joins_1 0 (v6 2) v6 f6 = 1) (h2 : gsX_X9_advance_1 v6 f6 = (v12, f13)) (h3 : gsX_X6_expression_8 v12 f13 = (1, v16, f17)) (h5 : gsX_X4_add_1 (v6 2) 0 v16 f17 = (v20, f21)) (h6 : t22 = l4_6 + 1) : gsX_X6_expression_7_L6 (n6 + 1) l4_6 v6 f6 = gsX_X6_expression_7_L6 n6 t22 v20 f21 := by
  subst h6
  simp only [gsX_X6_expression_7_L6, if_neg h0, h1, h2, h3, h5, ite11, ite01]
theorem gsX_X6_expression_7_q2 {n6 : Nat} {l4_6 : Int32} {v6 : Nat → Int32} {f6 : Nat → Nat → Int32} {v12 : Nat → Int32} {f13 : Nat → Nat → Int32} {v16 : Nat → Int32} {f17 : Nat → Nat → Int32} (h0 : ¬ (1600 ≤ l4_6)) (h1 : gsX_X6_joins_1 0 (v6 2) v6 f6 = 1) (h2 : gsX_X9_advance_1 v6 f6 = (v12, f13)) (h3 : gsX_X6_expression_8 v12 f13 = (0, v16, f17)) : gsX_X6_expression_7_L6 (n6 + 1) l4_6 v6 f6 = (0, v16, f17) := by
  simp only [gsX_X6_expression_7_L6, if_neg h0, h1, h2, h3, ite11, ite01]
theorem gsX_X6_expression_7_q3 {n6 : Nat} {l4_6 : Int32} {v6 : Nat → Int32} {f6 : Nat → Nat → Int32} (h0 : ¬ (1600 ≤ l4_6)) (h1 : gsX_X6_joins_1 0 (v6 2) v6 f6 = 0) : gsX_X6_expression_7_L6 (n6 + 1) l4_6 v6 f6 = (1, v6, f6) := by
  simp only [gsX_X6_expression_7_L6, if_neg h0, h1, ite11, ite01]
def gsX_X6_unit_1 (v : Nat → Int32) (f : Nat → Nat → Int32) : Int32 × (Nat → Int32) × (Nat → Nat → Int32) :=
  if (v 2) = 2 then
    if (v 17) < 30 then
      match gsX_X4_add_1 (v 2) (v 5) v f with
      | (v4, f5) =>
        let t6 : Int32 := (v4 17) + 1
        match gsX_X9_advance_1 (upd v4 17 t6) f5 with
        | (v8, f9) =>
          (1, v8, f9)
    else
      match gsX_X6_refuse_1 v f with
      | (r10, v12, f13) =>
        if r10 = 1 then
          (1, v12, f13)
        else
          (0, v12, f13)
  else
    if (v 2) < 116 then
      if (v 2) = 40 then
        if (v 17) < 30 then
          let t23 : Int32 := (v 17) + 1
          match gsX_X9_advance_1 (upd v 17 t23) f with
          | (v26, f27) =>
            match gsX_X6_expression_7 v26 f27 with
            | (r28, v30, f31) =>
              if r28 = 1 then
                match gsX_X6_taken_1 41 v30 f31 with
                | (r33, v35, f36) =>
                  if r33 = 1 then
                    (1, v35, f36)
                  else
                    (0, v35, f36)
              else
                (0, v30, f31)
        else
          match gsX_X6_refuse_1 v f with
          | (r38, v40, f41) =>
            if r38 = 1 then
              (1, v40, f41)
            else
              (0, v40, f41)
      else
        match gsX_X6_refuse_1 v f with
        | (r17, v19, f20) =>
          if r17 = 1 then
            (1, v19, f20)
          else
            (0, v19, f20)
    else
      if 121 < (v 2) then
        if (v 2) = 40 then
          if (v 17) < 30 then
            let t51 : Int32 := (v 17) + 1
            match gsX_X9_advance_1 (upd v 17 t51) f with
            | (v54, f55) =>
              match gsX_X6_expression_7 v54 f55 with
              | (r56, v58, f59) =>
                if r56 = 1 then
                  match gsX_X6_taken_1 41 v58 f59 with
                  | (r61, v63, f64) =>
                    if r61 = 1 then
                      (1, v63, f64)
                    else
                      (0, v63, f64)
                else
                  (0, v58, f59)
          else
            match gsX_X6_refuse_1 v f with
            | (r66, v68, f69) =>
              if r66 = 1 then
                (1, v68, f69)
              else
                (0, v68, f69)
        else
          match gsX_X6_refuse_1 v f with
          | (r45, v47, f48) =>
            if r45 = 1 then
              (1, v47, f48)
            else
              (0, v47, f48)
      else
        if (v 17) < 30 then
          match gsX_X4_add_1 (v 2) (v 5) v f with
          | (v73, f74) =>
            let t75 : Int32 := (v73 17) + 1
            match gsX_X9_advance_1 (upd v73 17 t75) f74 with
            | (v77, f78) =>
              (1, v77, f78)
        else
          match gsX_X6_refuse_1 v f with
          | (r79, v81, f82) =>
            if r79 = 1 then
              (1, v81, f82)
            else
              (0, v81, f82)
theorem gsX_X6_unit_1_q0 {v : Nat → Int32} {f : Nat → Nat → Int32} {v4 : Nat → Int32} {f5 : Nat → Nat → Int32} {t6 : Int32} {v8 : Nat → Int32} {f9 : Nat → Nat → Int32} (h0 : ((v 2) = 2)) (h1 : ((v 17) < 30)) (h2 : gsX_X4_add_1 (v 2) (v 5) v f = (v4, f5)) (h3 : t6 = (v4 17) + 1) (h4 : gsX_X9_advance_1 (upd v4 17 t6) f5 = (v8, f9)) : gsX_X6_unit_1 v f = (1, v8, f9) := by
  subst h3
  simp only [gsX_X6_unit_1, if_pos h0, if_pos h1, h2, h4]
theorem gsX_X6_unit_1_q1 {v : Nat → Int32} {f : Nat → Nat → Int32} {v12 : Nat → Int32} {f13 : Nat → Nat → Int32} (h0 : ((v 2) = 2)) (h1 : ¬ ((v 17) < 30)) (h2 : gsX_X6_refuse_1 v f = (1, v12, f13)) : gsX_X6_unit_1 v f = (1, v12, f13) := by
  simp only [gsX_X6_unit_1, if_pos h0, if_neg h1, h2, ite11, ite01]
theorem gsX_X6_unit_1_q2 {v : Nat → Int32} {f : Nat → Nat → Int32} {v12 : Nat → Int32} {f13 : Nat → Nat → Int32} (h0 : ((v 2) = 2)) (h1 : ¬ ((v 17) < 30)) (h2 : gsX_X6_refuse_1 v f = (0, v12, f13)) : gsX_X6_unit_1 v f = (0, v12, f13) := by
  simp only [gsX_X6_unit_1, if_pos h0, if_neg h1, h2, ite11, ite01]
theorem gsX_X6_unit_1_q3 {v : Nat → Int32} {f : Nat → Nat → Int32} {v19 : Nat → Int32} {f20 : Nat → Nat → Int32} (h0 : ¬ ((v 2) = 2)) (h1 : ((v 2) < 116)) (h2 : ¬ ((v 2) = 40)) (h3 : gsX_X6_refuse_1 v f = (1, v19, f20)) : gsX_X6_unit_1 v f = (1, v19, f20) := by
  simp only [gsX_X6_unit_1, if_neg h0, if_pos h1, if_neg h2, h3, ite11, ite01]
theorem gsX_X6_unit_1_q4 {v : Nat → Int32} {f : Nat → Nat → Int32} {v19 : Nat → Int32} {f20 : Nat → Nat → Int32} (h0 : ¬ ((v 2) = 2)) (h1 : ((v 2) < 116)) (h2 : ¬ ((v 2) = 40)) (h3 : gsX_X6_refuse_1 v f = (0, v19, f20)) : gsX_X6_unit_1 v f = (0, v19, f20) := by
  simp only [gsX_X6_unit_1, if_neg h0, if_pos h1, if_neg h2, h3, ite11, ite01]
theorem gsX_X6_unit_1_q5 {v : Nat → Int32} {f : Nat → Nat → Int32} {t23 : Int32} {v26 : Nat → Int32} {f27 : Nat → Nat → Int32} {v30 : Nat → Int32} {f31 : Nat → Nat → Int32} {v35 : Nat → Int32} {f36 : Nat → Nat → Int32} (h0 : ¬ ((v 2) = 2)) (h1 : ((v 2) < 116)) (h2 : ((v 2) = 40)) (h3 : ((v 17) < 30)) (h4 : t23 = (v 17) + 1) (h5 : gsX_X9_advance_1 (upd v 17 t23) f = (v26, f27)) (h6 : gsX_X6_expression_7 v26 f27 = (1, v30, f31)) (h8 : gsX_X6_taken_1 41 v30 f31 = (1, v35, f36)) : gsX_X6_unit_1 v f = (1, v35, f36) := by
  subst h4
  simp only [gsX_X6_unit_1, if_neg h0, if_pos h1, if_pos h2, if_pos h3, h5, h6, h8, ite11, ite01]
theorem gsX_X6_unit_1_q6 {v : Nat → Int32} {f : Nat → Nat → Int32} {t23 : Int32} {v26 : Nat → Int32} {f27 : Nat → Nat → Int32} {v30 : Nat → Int32} {f31 : Nat → Nat → Int32} {v35 : Nat → Int32} {f36 : Nat → Nat → Int32} (h0 : ¬ ((v 2) = 2)) (h1 : ((v 2) < 116)) (h2 : ((v 2) = 40)) (h3 : ((v 17) < 30)) (h4 : t23 = (v 17) + 1) (h5 : gsX_X9_advance_1 (upd v 17 t23) f = (v26, f27)) (h6 : gsX_X6_expression_7 v26 f27 = (1, v30, f31)) (h8 : gsX_X6_taken_1 41 v30 f31 = (0, v35, f36)) : gsX_X6_unit_1 v f = (0, v35, f36) := by
  subst h4
  simp only [gsX_X6_unit_1, if_neg h0, if_pos h1, if_pos h2, if_pos h3, h5, h6, h8, ite11, ite01]
theorem gsX_X6_unit_1_q7 {v : Nat → Int32} {f : Nat → Nat → Int32} {t23 : Int32} {v26 : Nat → Int32} {f27 : Nat → Nat → Int32} {v30 : Nat → Int32} {f31 : Nat → Nat → Int32} (h0 : ¬ ((v 2) = 2)) (h1 : ((v 2) < 116)) (h2 : ((v 2) = 40)) (h3 : ((v 17) < 30)) (h4 : t23 = (v 17) + 1) (h5 : gsX_X9_advance_1 (upd v 17 t23) f = (v26, f27)) (h6 : gsX_X6_expression_7 v26 f27 = (0, v30, f31)) : gsX_X6_unit_1 v f = (0, v30, f31) := by
  subst h4
  simp only [gsX_X6_unit_1, if_neg h0, if_pos h1, if_pos h2, if_pos h3, h5, h6, ite11, ite01]
theorem gsX_X6_unit_1_q8 {v : Nat → Int32} {f : Nat → Nat → Int32} {v40 : Nat → Int32} {f41 : Nat → Nat → Int32} (h0 : ¬ ((v 2) = 2)) (h1 : ((v 2) < 116)) (h2 : ((v 2) = 40)) (h3 : ¬ ((v 17) < 30)) (h4 : gsX_X6_refuse_1 v f = (1, v40, f41)) : gsX_X6_unit_1 v f = (1, v40, f41) := by
  simp only [gsX_X6_unit_1, if_neg h0, if_pos h1, if_pos h2, if_neg h3, h4, ite11, ite01]
theorem gsX_X6_unit_1_q9 {v : Nat → Int32} {f : Nat → Nat → Int32} {v40 : Nat → Int32} {f41 : Nat → Nat → Int32} (h0 : ¬ ((v 2) = 2)) (h1 : ((v 2) < 116)) (h2 : ((v 2) = 40)) (h3 : ¬ ((v 17) < 30)) (h4 : gsX_X6_refuse_1 v f = (0, v40, f41)) : gsX_X6_unit_1 v f = (0, v40, f41) := by
  simp only [gsX_X6_unit_1, if_neg h0, if_pos h1, if_pos h2, if_neg h3, h4, ite11, ite01]
theorem gsX_X6_unit_1_q10 {v : Nat → Int32} {f : Nat → Nat → Int32} {v47 : Nat → Int32} {f48 : Nat → Nat → Int32} (h0 : ¬ ((v 2) = 2)) (h1 : ¬ ((v 2) < 116)) (h2 : (121 < (v 2))) (h3 : ¬ ((v 2) = 40)) (h4 : gsX_X6_refuse_1 v f = (1, v47, f48)) : gsX_X6_unit_1 v f = (1, v47, f48) := by
  simp only [gsX_X6_unit_1, if_neg h0, if_neg h1, if_pos h2, if_neg h3, h4, ite11, ite01]
theorem gsX_X6_unit_1_q11 {v : Nat → Int32} {f : Nat → Nat → Int32} {v47 : Nat → Int32} {f48 : Nat → Nat → Int32} (h0 : ¬ ((v 2) = 2)) (h1 : ¬ ((v 2) < 116)) (h2 : (121 < (v 2))) (h3 : ¬ ((v 2) = 40)) (h4 : gsX_X6_refuse_1 v f = (0, v47, f48)) : gsX_X6_unit_1 v f = (0, v47, f48) := by
  simp only [gsX_X6_unit_1, if_neg h0, if_neg h1, if_pos h2, if_neg h3, h4, ite11, ite01]
theorem gsX_X6_unit_1_q12 {v : Nat → Int32} {f : Nat → Nat → Int32} {t51 : Int32} {v54 : Nat → Int32} {f55 : Nat → Nat → Int32} {v58 : Nat → Int32} {f59 : Nat → Nat → Int32} {v63 : Nat → Int32} {f64 : Nat → Nat → Int32} (h0 : ¬ ((v 2) = 2)) (h1 : ¬ ((v 2) < 116)) (h2 : (121 < (v 2))) (h3 : ((v 2) = 40)) (h4 : ((v 17) < 30)) (h5 : t51 = (v 17) + 1) (h6 : gsX_X9_advance_1 (upd v 17 t51) f = (v54, f55)) (h7 : gsX_X6_expression_7 v54 f55 = (1, v58, f59)) (h9 : gsX_X6_taken_1 41 v58 f59 = (1, v63, f64)) : gsX_X6_unit_1 v f = (1, v63, f64) := by
  subst h5
  simp only [gsX_X6_unit_1, if_neg h0, if_neg h1, if_pos h2, if_pos h3, if_pos h4, h6, h7, h9, ite11, ite01]
theorem gsX_X6_unit_1_q13 {v : Nat → Int32} {f : Nat → Nat → Int32} {t51 : Int32} {v54 : Nat → Int32} {f55 : Nat → Nat → Int32} {v58 : Nat → Int32} {f59 : Nat → Nat → Int32} {v63 : Nat → Int32} {f64 : Nat → Nat → Int32} (h0 : ¬ ((v 2) = 2)) (h1 : ¬ ((v 2) < 116)) (h2 : (121 < (v 2))) (h3 : ((v 2) = 40)) (h4 : ((v 17) < 30)) (h5 : t51 = (v 17) + 1) (h6 : gsX_X9_advance_1 (upd v 17 t51) f = (v54, f55)) (h7 : gsX_X6_expression_7 v54 f55 = (1, v58, f59)) (h9 : gsX_X6_taken_1 41 v58 f59 = (0, v63, f64)) : gsX_X6_unit_1 v f = (0, v63, f64) := by
  subst h5
  simp only [gsX_X6_unit_1, if_neg h0, if_neg h1, if_pos h2, if_pos h3, if_pos h4, h6, h7, h9, ite11, ite01]
theorem gsX_X6_unit_1_q14 {v : Nat → Int32} {f : Nat → Nat → Int32} {t51 : Int32} {v54 : Nat → Int32} {f55 : Nat → Nat → Int32} {v58 : Nat → Int32} {f59 : Nat → Nat → Int32} (h0 : ¬ ((v 2) = 2)) (h1 : ¬ ((v 2) < 116)) (h2 : (121 < (v 2))) (h3 : ((v 2) = 40)) (h4 : ((v 17) < 30)) (h5 : t51 = (v 17) + 1) (h6 : gsX_X9_advance_1 (upd v 17 t51) f = (v54, f55)) (h7 : gsX_X6_expression_7 v54 f55 = (0, v58, f59)) : gsX_X6_unit_1 v f = (0, v58, f59) := by
  subst h5
  simp only [gsX_X6_unit_1, if_neg h0, if_neg h1, if_pos h2, if_pos h3, if_pos h4, h6, h7, ite11, ite01]
theorem gsX_X6_unit_1_q15 {v : Nat → Int32} {f : Nat → Nat → Int32} {v68 : Nat → Int32} {f69 : Nat → Nat → Int32} (h0 : ¬ ((v 2) = 2)) (h1 : ¬ ((v 2) < 116)) (h2 : (121 < (v 2))) (h3 : ((v 2) = 40)) (h4 : ¬ ((v 17) < 30)) (h5 : gsX_X6_refuse_1 v f = (1, v68, f69)) : gsX_X6_unit_1 v f = (1, v68, f69) := by
  simp only [gsX_X6_unit_1, if_neg h0, if_neg h1, if_pos h2, if_pos h3, if_neg h4, h5, ite11, ite01]
theorem gsX_X6_unit_1_q16 {v : Nat → Int32} {f : Nat → Nat → Int32} {v68 : Nat → Int32} {f69 : Nat → Nat → Int32} (h0 : ¬ ((v 2) = 2)) (h1 : ¬ ((v 2) < 116)) (h2 : (121 < (v 2))) (h3 : ((v 2) = 40)) (h4 : ¬ ((v 17) < 30)) (h5 : gsX_X6_refuse_1 v f = (0, v68, f69)) : gsX_X6_unit_1 v f = (0, v68, f69) := by
  simp only [gsX_X6_unit_1, if_neg h0, if_neg h1, if_pos h2, if_pos h3, if_neg h4, h5, ite11, ite01]
theorem gsX_X6_unit_1_q17 {v : Nat → Int32} {f : Nat → Nat → Int32} {v73 : Nat → Int32} {f74 : Nat → Nat → Int32} {t75 : Int32} {v77 : Nat → Int32} {f78 : Nat → Nat → Int32} (h0 : ¬ ((v 2) = 2)) (h1 : ¬ ((v 2) < 116)) (h2 : ¬ (121 < (v 2))) (h3 : ((v 17) < 30)) (h4 : gsX_X4_add_1 (v 2) (v 5) v f = (v73, f74)) (h5 : t75 = (v73 17) + 1) (h6 : gsX_X9_advance_1 (upd v73 17 t75) f74 = (v77, f78)) : gsX_X6_unit_1 v f = (1, v77, f78) := by
  subst h5
  simp only [gsX_X6_unit_1, if_neg h0, if_neg h1, if_neg h2, if_pos h3, h4, h6]
theorem gsX_X6_unit_1_q18 {v : Nat → Int32} {f : Nat → Nat → Int32} {v81 : Nat → Int32} {f82 : Nat → Nat → Int32} (h0 : ¬ ((v 2) = 2)) (h1 : ¬ ((v 2) < 116)) (h2 : ¬ (121 < (v 2))) (h3 : ¬ ((v 17) < 30)) (h4 : gsX_X6_refuse_1 v f = (1, v81, f82)) : gsX_X6_unit_1 v f = (1, v81, f82) := by
  simp only [gsX_X6_unit_1, if_neg h0, if_neg h1, if_neg h2, if_neg h3, h4, ite11, ite01]
theorem gsX_X6_unit_1_q19 {v : Nat → Int32} {f : Nat → Nat → Int32} {v81 : Nat → Int32} {f82 : Nat → Nat → Int32} (h0 : ¬ ((v 2) = 2)) (h1 : ¬ ((v 2) < 116)) (h2 : ¬ (121 < (v 2))) (h3 : ¬ ((v 17) < 30)) (h4 : gsX_X6_refuse_1 v f = (0, v81, f82)) : gsX_X6_unit_1 v f = (0, v81, f82) := by
  simp only [gsX_X6_unit_1, if_neg h0, if_neg h1, if_neg h2, if_neg h3, h4, ite11, ite01]
def gsX_X6_expression_6 (v : Nat → Int32) (f : Nat → Nat → Int32) : Int32 × (Nat → Int32) × (Nat → Nat → Int32) :=
  match gsX_X6_unit_1 v f with
  | (r1, v3, f4) =>
    if r1 = 1 then
      (1, v3, f4)
    else
      (0, v3, f4)
theorem gsX_X6_expression_6_q0 {v : Nat → Int32} {f : Nat → Nat → Int32} {v3 : Nat → Int32} {f4 : Nat → Nat → Int32} (h0 : gsX_X6_unit_1 v f = (1, v3, f4)) : gsX_X6_expression_6 v f = (1, v3, f4) := by
  simp only [gsX_X6_expression_6, h0, ite11, ite01]
theorem gsX_X6_expression_6_q1 {v : Nat → Int32} {f : Nat → Nat → Int32} {v3 : Nat → Int32} {f4 : Nat → Nat → Int32} (h0 : gsX_X6_unit_1 v f = (0, v3, f4)) : gsX_X6_expression_6 v f = (0, v3, f4) := by
  simp only [gsX_X6_expression_6, h0, ite11, ite01]
def gsX_X6_expression_5_L6 : Nat → (Int32) → (Nat → Int32) → (Nat → Nat → Int32) → Int32 × (Nat → Int32) × (Nat → Nat → Int32)
  | 0, _, _, _ => (0, (fun _ => 0), (fun _ _ => 0))
  | n6 + 1, l4_6, v6, f6 =>
    if 1600 ≤ l4_6 then
      (1, v6, f6)
    else
      if gsX_X6_joins_1 4 (v6 2) v6 f6 = 1 then
        match gsX_X9_advance_1 v6 f6 with
        | (v12, f13) =>
          match gsX_X6_expression_6 v12 f13 with
          | (r14, v16, f17) =>
            if r14 = 1 then
              match gsX_X4_add_1 (v6 2) 0 v16 f17 with
              | (v20, f21) =>
                let t22 : Int32 := l4_6 + 1
                gsX_X6_expression_5_L6 n6 t22 v20 f21
            else
              (0, v16, f17)
      else
        (1, v6, f6)
def gsX_X6_expression_5 (v : Nat → Int32) (f : Nat → Nat → Int32) : Int32 × (Nat → Int32) × (Nat → Nat → Int32) :=
  match gsX_X6_expression_6 v f with
  | (r1, v3, f4) =>
    if r1 = 1 then
      gsX_X6_expression_5_L6 4294967296 0 v3 f4
    else
      (0, v3, f4)
theorem gsX_X6_expression_5_q4 {v : Nat → Int32} {f : Nat → Nat → Int32} {v3 : Nat → Int32} {f4 : Nat → Nat → Int32} (h0 : gsX_X6_expression_6 v f = (1, v3, f4)) : gsX_X6_expression_5 v f = gsX_X6_expression_5_L6 4294967296 0 v3 f4 := by
  simp only [gsX_X6_expression_5, h0, ite11, ite01]
theorem gsX_X6_expression_5_q5 {v : Nat → Int32} {f : Nat → Nat → Int32} {v3 : Nat → Int32} {f4 : Nat → Nat → Int32} (h0 : gsX_X6_expression_6 v f = (0, v3, f4)) : gsX_X6_expression_5 v f = (0, v3, f4) := by
  simp only [gsX_X6_expression_5, h0, ite11, ite01]
theorem gsX_X6_expression_5_q0 {n6 : Nat} {l4_6 : Int32} {v6 : Nat → Int32} {f6 : Nat → Nat → Int32} (h0 : (1600 ≤ l4_6)) : gsX_X6_expression_5_L6 (n6 + 1) l4_6 v6 f6 = (1, v6, f6) := by
  simp only [gsX_X6_expression_5_L6, if_pos h0]
theorem gsX_X6_expression_5_q1 {n6 : Nat} {l4_6 : Int32} {v6 : Nat → Int32} {f6 : Nat → Nat → Int32} {v12 : Nat → Int32} {f13 : Nat → Nat → Int32} {v16 : Nat → Int32} {f17 : Nat → Nat → Int32} {v20 : Nat → Int32} {f21 : Nat → Nat → Int32} {t22 : Int32} (h0 : ¬ (1600 ≤ l4_6)) (h1 : gsX_X6_joins_1 4 (v6 2) v6 f6 = 1) (h2 : gsX_X9_advance_1 v6 f6 = (v12, f13)) (h3 : gsX_X6_expression_6 v12 f13 = (1, v16, f17)) (h5 : gsX_X4_add_1 (v6 2) 0 v16 f17 = (v20, f21)) (h6 : t22 = l4_6 + 1) : gsX_X6_expression_5_L6 (n6 + 1) l4_6 v6 f6 = gsX_X6_expression_5_L6 n6 t22 v20 f21 := by
  subst h6
  simp only [gsX_X6_expression_5_L6, if_neg h0, h1, h2, h3, h5, ite11, ite01]
theorem gsX_X6_expression_5_q2 {n6 : Nat} {l4_6 : Int32} {v6 : Nat → Int32} {f6 : Nat → Nat → Int32} {v12 : Nat → Int32} {f13 : Nat → Nat → Int32} {v16 : Nat → Int32} {f17 : Nat → Nat → Int32} (h0 : ¬ (1600 ≤ l4_6)) (h1 : gsX_X6_joins_1 4 (v6 2) v6 f6 = 1) (h2 : gsX_X9_advance_1 v6 f6 = (v12, f13)) (h3 : gsX_X6_expression_6 v12 f13 = (0, v16, f17)) : gsX_X6_expression_5_L6 (n6 + 1) l4_6 v6 f6 = (0, v16, f17) := by
  simp only [gsX_X6_expression_5_L6, if_neg h0, h1, h2, h3, ite11, ite01]
theorem gsX_X6_expression_5_q3 {n6 : Nat} {l4_6 : Int32} {v6 : Nat → Int32} {f6 : Nat → Nat → Int32} (h0 : ¬ (1600 ≤ l4_6)) (h1 : gsX_X6_joins_1 4 (v6 2) v6 f6 = 0) : gsX_X6_expression_5_L6 (n6 + 1) l4_6 v6 f6 = (1, v6, f6) := by
  simp only [gsX_X6_expression_5_L6, if_neg h0, h1, ite11, ite01]
def gsX_X6_expression_4_L6 : Nat → (Int32) → (Nat → Int32) → (Nat → Nat → Int32) → Int32 × (Nat → Int32) × (Nat → Nat → Int32)
  | 0, _, _, _ => (0, (fun _ => 0), (fun _ _ => 0))
  | n6 + 1, l4_6, v6, f6 =>
    if 1600 ≤ l4_6 then
      (1, v6, f6)
    else
      if gsX_X6_joins_1 3 (v6 2) v6 f6 = 1 then
        match gsX_X9_advance_1 v6 f6 with
        | (v12, f13) =>
          match gsX_X6_expression_5 v12 f13 with
          | (r14, v16, f17) =>
            if r14 = 1 then
              match gsX_X4_add_1 (v6 2) 0 v16 f17 with
              | (v20, f21) =>
                let t22 : Int32 := l4_6 + 1
                gsX_X6_expression_4_L6 n6 t22 v20 f21
            else
              (0, v16, f17)
      else
        (1, v6, f6)
def gsX_X6_expression_4 (v : Nat → Int32) (f : Nat → Nat → Int32) : Int32 × (Nat → Int32) × (Nat → Nat → Int32) :=
  match gsX_X6_expression_5 v f with
  | (r1, v3, f4) =>
    if r1 = 1 then
      gsX_X6_expression_4_L6 4294967296 0 v3 f4
    else
      (0, v3, f4)
theorem gsX_X6_expression_4_q4 {v : Nat → Int32} {f : Nat → Nat → Int32} {v3 : Nat → Int32} {f4 : Nat → Nat → Int32} (h0 : gsX_X6_expression_5 v f = (1, v3, f4)) : gsX_X6_expression_4 v f = gsX_X6_expression_4_L6 4294967296 0 v3 f4 := by
  simp only [gsX_X6_expression_4, h0, ite11, ite01]
theorem gsX_X6_expression_4_q5 {v : Nat → Int32} {f : Nat → Nat → Int32} {v3 : Nat → Int32} {f4 : Nat → Nat → Int32} (h0 : gsX_X6_expression_5 v f = (0, v3, f4)) : gsX_X6_expression_4 v f = (0, v3, f4) := by
  simp only [gsX_X6_expression_4, h0, ite11, ite01]
theorem gsX_X6_expression_4_q0 {n6 : Nat} {l4_6 : Int32} {v6 : Nat → Int32} {f6 : Nat → Nat → Int32} (h0 : (1600 ≤ l4_6)) : gsX_X6_expression_4_L6 (n6 + 1) l4_6 v6 f6 = (1, v6, f6) := by
  simp only [gsX_X6_expression_4_L6, if_pos h0]
theorem gsX_X6_expression_4_q1 {n6 : Nat} {l4_6 : Int32} {v6 : Nat → Int32} {f6 : Nat → Nat → Int32} {v12 : Nat → Int32} {f13 : Nat → Nat → Int32} {v16 : Nat → Int32} {f17 : Nat → Nat → Int32} {v20 : Nat → Int32} {f21 : Nat → Nat → Int32} {t22 : Int32} (h0 : ¬ (1600 ≤ l4_6)) (h1 : gsX_X6_joins_1 3 (v6 2) v6 f6 = 1) (h2 : gsX_X9_advance_1 v6 f6 = (v12, f13)) (h3 : gsX_X6_expression_5 v12 f13 = (1, v16, f17)) (h5 : gsX_X4_add_1 (v6 2) 0 v16 f17 = (v20, f21)) (h6 : t22 = l4_6 + 1) : gsX_X6_expression_4_L6 (n6 + 1) l4_6 v6 f6 = gsX_X6_expression_4_L6 n6 t22 v20 f21 := by
  subst h6
  simp only [gsX_X6_expression_4_L6, if_neg h0, h1, h2, h3, h5, ite11, ite01]
theorem gsX_X6_expression_4_q2 {n6 : Nat} {l4_6 : Int32} {v6 : Nat → Int32} {f6 : Nat → Nat → Int32} {v12 : Nat → Int32} {f13 : Nat → Nat → Int32} {v16 : Nat → Int32} {f17 : Nat → Nat → Int32} (h0 : ¬ (1600 ≤ l4_6)) (h1 : gsX_X6_joins_1 3 (v6 2) v6 f6 = 1) (h2 : gsX_X9_advance_1 v6 f6 = (v12, f13)) (h3 : gsX_X6_expression_5 v12 f13 = (0, v16, f17)) : gsX_X6_expression_4_L6 (n6 + 1) l4_6 v6 f6 = (0, v16, f17) := by
  simp only [gsX_X6_expression_4_L6, if_neg h0, h1, h2, h3, ite11, ite01]
theorem gsX_X6_expression_4_q3 {n6 : Nat} {l4_6 : Int32} {v6 : Nat → Int32} {f6 : Nat → Nat → Int32} (h0 : ¬ (1600 ≤ l4_6)) (h1 : gsX_X6_joins_1 3 (v6 2) v6 f6 = 0) : gsX_X6_expression_4_L6 (n6 + 1) l4_6 v6 f6 = (1, v6, f6) := by
  simp only [gsX_X6_expression_4_L6, if_neg h0, h1, ite11, ite01]
def gsX_X6_negation_8 (v : Nat → Int32) (f : Nat → Nat → Int32) : Int32 × (Nat → Int32) × (Nat → Nat → Int32) :=
  match gsX_X9_advance_1 v f with
  | (v2, f3) =>
    match gsX_X6_expression_9 v2 f3 with
    | (r4, v6, f7) =>
      if r4 = 1 then
        match gsX_X4_add_1 115 0 v6 f7 with
        | (v10, f11) =>
          (1, v10, f11)
      else
        (0, v6, f7)
theorem gsX_X6_negation_8_q0 {v : Nat → Int32} {f : Nat → Nat → Int32} {v2 : Nat → Int32} {f3 : Nat → Nat → Int32} {v6 : Nat → Int32} {f7 : Nat → Nat → Int32} {v10 : Nat → Int32} {f11 : Nat → Nat → Int32} (h0 : gsX_X9_advance_1 v f = (v2, f3)) (h1 : gsX_X6_expression_9 v2 f3 = (1, v6, f7)) (h3 : gsX_X4_add_1 115 0 v6 f7 = (v10, f11)) : gsX_X6_negation_8 v f = (1, v10, f11) := by
  simp only [gsX_X6_negation_8, h0, h1, h3, ite11, ite01]
theorem gsX_X6_negation_8_q1 {v : Nat → Int32} {f : Nat → Nat → Int32} {v2 : Nat → Int32} {f3 : Nat → Nat → Int32} {v6 : Nat → Int32} {f7 : Nat → Nat → Int32} (h0 : gsX_X9_advance_1 v f = (v2, f3)) (h1 : gsX_X6_expression_9 v2 f3 = (0, v6, f7)) : gsX_X6_negation_8 v f = (0, v6, f7) := by
  simp only [gsX_X6_negation_8, h0, h1, ite11, ite01]
def gsX_X6_expression_3_L7 : Nat → (Int32) → (Nat → Int32) → (Nat → Nat → Int32) → Int32 × (Nat → Int32) × (Nat → Nat → Int32)
  | 0, _, _, _ => (0, (fun _ => 0), (fun _ _ => 0))
  | n7 + 1, l4_7, v7, f7 =>
    if 1 ≤ l4_7 then
      (1, v7, f7)
    else
      if gsX_X6_joins_1 2 (v7 2) v7 f7 = 1 then
        match gsX_X9_advance_1 v7 f7 with
        | (v13, f14) =>
          match gsX_X6_expression_4 v13 f14 with
          | (r15, v17, f18) =>
            if r15 = 1 then
              match gsX_X4_add_1 (v7 2) 0 v17 f18 with
              | (v21, f22) =>
                let t23 : Int32 := l4_7 + 1
                gsX_X6_expression_3_L7 n7 t23 v21 f22
            else
              (0, v17, f18)
      else
        (1, v7, f7)
def gsX_X6_expression_3 (v : Nat → Int32) (f : Nat → Nat → Int32) : Int32 × (Nat → Int32) × (Nat → Nat → Int32) :=
  if (v 2) = 115 then
    match gsX_X6_negation_8 v f with
    | (r26, v28, f29) =>
      if r26 = 1 then
        (1, v28, f29)
      else
        (0, v28, f29)
  else
    match gsX_X6_expression_4 v f with
    | (r2, v4, f5) =>
      if r2 = 1 then
        gsX_X6_expression_3_L7 4294967296 0 v4 f5
      else
        (0, v4, f5)
theorem gsX_X6_expression_3_q4 {v : Nat → Int32} {f : Nat → Nat → Int32} {v4 : Nat → Int32} {f5 : Nat → Nat → Int32} (h0 : ¬ ((v 2) = 115)) (h1 : gsX_X6_expression_4 v f = (1, v4, f5)) : gsX_X6_expression_3 v f = gsX_X6_expression_3_L7 4294967296 0 v4 f5 := by
  simp only [gsX_X6_expression_3, if_neg h0, h1, ite11, ite01]
theorem gsX_X6_expression_3_q5 {v : Nat → Int32} {f : Nat → Nat → Int32} {v4 : Nat → Int32} {f5 : Nat → Nat → Int32} (h0 : ¬ ((v 2) = 115)) (h1 : gsX_X6_expression_4 v f = (0, v4, f5)) : gsX_X6_expression_3 v f = (0, v4, f5) := by
  simp only [gsX_X6_expression_3, if_neg h0, h1, ite11, ite01]
theorem gsX_X6_expression_3_q6 {v : Nat → Int32} {f : Nat → Nat → Int32} {v28 : Nat → Int32} {f29 : Nat → Nat → Int32} (h0 : ((v 2) = 115)) (h1 : gsX_X6_negation_8 v f = (1, v28, f29)) : gsX_X6_expression_3 v f = (1, v28, f29) := by
  simp only [gsX_X6_expression_3, if_pos h0, h1, ite11, ite01]
theorem gsX_X6_expression_3_q7 {v : Nat → Int32} {f : Nat → Nat → Int32} {v28 : Nat → Int32} {f29 : Nat → Nat → Int32} (h0 : ((v 2) = 115)) (h1 : gsX_X6_negation_8 v f = (0, v28, f29)) : gsX_X6_expression_3 v f = (0, v28, f29) := by
  simp only [gsX_X6_expression_3, if_pos h0, h1, ite11, ite01]
theorem gsX_X6_expression_3_q0 {n7 : Nat} {l4_7 : Int32} {v7 : Nat → Int32} {f7 : Nat → Nat → Int32} (h0 : (1 ≤ l4_7)) : gsX_X6_expression_3_L7 (n7 + 1) l4_7 v7 f7 = (1, v7, f7) := by
  simp only [gsX_X6_expression_3_L7, if_pos h0]
theorem gsX_X6_expression_3_q1 {n7 : Nat} {l4_7 : Int32} {v7 : Nat → Int32} {f7 : Nat → Nat → Int32} {v13 : Nat → Int32} {f14 : Nat → Nat → Int32} {v17 : Nat → Int32} {f18 : Nat → Nat → Int32} {v21 : Nat → Int32} {f22 : Nat → Nat → Int32} {t23 : Int32} (h0 : ¬ (1 ≤ l4_7)) (h1 : gsX_X6_joins_1 2 (v7 2) v7 f7 = 1) (h2 : gsX_X9_advance_1 v7 f7 = (v13, f14)) (h3 : gsX_X6_expression_4 v13 f14 = (1, v17, f18)) (h5 : gsX_X4_add_1 (v7 2) 0 v17 f18 = (v21, f22)) (h6 : t23 = l4_7 + 1) : gsX_X6_expression_3_L7 (n7 + 1) l4_7 v7 f7 = gsX_X6_expression_3_L7 n7 t23 v21 f22 := by
  subst h6
  simp only [gsX_X6_expression_3_L7, if_neg h0, h1, h2, h3, h5, ite11, ite01]
theorem gsX_X6_expression_3_q2 {n7 : Nat} {l4_7 : Int32} {v7 : Nat → Int32} {f7 : Nat → Nat → Int32} {v13 : Nat → Int32} {f14 : Nat → Nat → Int32} {v17 : Nat → Int32} {f18 : Nat → Nat → Int32} (h0 : ¬ (1 ≤ l4_7)) (h1 : gsX_X6_joins_1 2 (v7 2) v7 f7 = 1) (h2 : gsX_X9_advance_1 v7 f7 = (v13, f14)) (h3 : gsX_X6_expression_4 v13 f14 = (0, v17, f18)) : gsX_X6_expression_3_L7 (n7 + 1) l4_7 v7 f7 = (0, v17, f18) := by
  simp only [gsX_X6_expression_3_L7, if_neg h0, h1, h2, h3, ite11, ite01]
theorem gsX_X6_expression_3_q3 {n7 : Nat} {l4_7 : Int32} {v7 : Nat → Int32} {f7 : Nat → Nat → Int32} (h0 : ¬ (1 ≤ l4_7)) (h1 : gsX_X6_joins_1 2 (v7 2) v7 f7 = 0) : gsX_X6_expression_3_L7 (n7 + 1) l4_7 v7 f7 = (1, v7, f7) := by
  simp only [gsX_X6_expression_3_L7, if_neg h0, h1, ite11, ite01]
def gsX_X6_expression_2_L6 : Nat → (Int32) → (Nat → Int32) → (Nat → Nat → Int32) → Int32 × (Nat → Int32) × (Nat → Nat → Int32)
  | 0, _, _, _ => (0, (fun _ => 0), (fun _ _ => 0))
  | n6 + 1, l4_6, v6, f6 =>
    if 1600 ≤ l4_6 then
      (1, v6, f6)
    else
      if gsX_X6_joins_1 1 (v6 2) v6 f6 = 1 then
        match gsX_X9_advance_1 v6 f6 with
        | (v12, f13) =>
          match gsX_X6_expression_3 v12 f13 with
          | (r14, v16, f17) =>
            if r14 = 1 then
              match gsX_X4_add_1 (v6 2) 0 v16 f17 with
              | (v20, f21) =>
                let t22 : Int32 := l4_6 + 1
                gsX_X6_expression_2_L6 n6 t22 v20 f21
            else
              (0, v16, f17)
      else
        (1, v6, f6)
def gsX_X6_expression_2 (v : Nat → Int32) (f : Nat → Nat → Int32) : Int32 × (Nat → Int32) × (Nat → Nat → Int32) :=
  match gsX_X6_expression_3 v f with
  | (r1, v3, f4) =>
    if r1 = 1 then
      gsX_X6_expression_2_L6 4294967296 0 v3 f4
    else
      (0, v3, f4)
theorem gsX_X6_expression_2_q4 {v : Nat → Int32} {f : Nat → Nat → Int32} {v3 : Nat → Int32} {f4 : Nat → Nat → Int32} (h0 : gsX_X6_expression_3 v f = (1, v3, f4)) : gsX_X6_expression_2 v f = gsX_X6_expression_2_L6 4294967296 0 v3 f4 := by
  simp only [gsX_X6_expression_2, h0, ite11, ite01]
theorem gsX_X6_expression_2_q5 {v : Nat → Int32} {f : Nat → Nat → Int32} {v3 : Nat → Int32} {f4 : Nat → Nat → Int32} (h0 : gsX_X6_expression_3 v f = (0, v3, f4)) : gsX_X6_expression_2 v f = (0, v3, f4) := by
  simp only [gsX_X6_expression_2, h0, ite11, ite01]
theorem gsX_X6_expression_2_q0 {n6 : Nat} {l4_6 : Int32} {v6 : Nat → Int32} {f6 : Nat → Nat → Int32} (h0 : (1600 ≤ l4_6)) : gsX_X6_expression_2_L6 (n6 + 1) l4_6 v6 f6 = (1, v6, f6) := by
  simp only [gsX_X6_expression_2_L6, if_pos h0]
theorem gsX_X6_expression_2_q1 {n6 : Nat} {l4_6 : Int32} {v6 : Nat → Int32} {f6 : Nat → Nat → Int32} {v12 : Nat → Int32} {f13 : Nat → Nat → Int32} {v16 : Nat → Int32} {f17 : Nat → Nat → Int32} {v20 : Nat → Int32} {f21 : Nat → Nat → Int32} {t22 : Int32} (h0 : ¬ (1600 ≤ l4_6)) (h1 : gsX_X6_joins_1 1 (v6 2) v6 f6 = 1) (h2 : gsX_X9_advance_1 v6 f6 = (v12, f13)) (h3 : gsX_X6_expression_3 v12 f13 = (1, v16, f17)) (h5 : gsX_X4_add_1 (v6 2) 0 v16 f17 = (v20, f21)) (h6 : t22 = l4_6 + 1) : gsX_X6_expression_2_L6 (n6 + 1) l4_6 v6 f6 = gsX_X6_expression_2_L6 n6 t22 v20 f21 := by
  subst h6
  simp only [gsX_X6_expression_2_L6, if_neg h0, h1, h2, h3, h5, ite11, ite01]
theorem gsX_X6_expression_2_q2 {n6 : Nat} {l4_6 : Int32} {v6 : Nat → Int32} {f6 : Nat → Nat → Int32} {v12 : Nat → Int32} {f13 : Nat → Nat → Int32} {v16 : Nat → Int32} {f17 : Nat → Nat → Int32} (h0 : ¬ (1600 ≤ l4_6)) (h1 : gsX_X6_joins_1 1 (v6 2) v6 f6 = 1) (h2 : gsX_X9_advance_1 v6 f6 = (v12, f13)) (h3 : gsX_X6_expression_3 v12 f13 = (0, v16, f17)) : gsX_X6_expression_2_L6 (n6 + 1) l4_6 v6 f6 = (0, v16, f17) := by
  simp only [gsX_X6_expression_2_L6, if_neg h0, h1, h2, h3, ite11, ite01]
theorem gsX_X6_expression_2_q3 {n6 : Nat} {l4_6 : Int32} {v6 : Nat → Int32} {f6 : Nat → Nat → Int32} (h0 : ¬ (1600 ≤ l4_6)) (h1 : gsX_X6_joins_1 1 (v6 2) v6 f6 = 0) : gsX_X6_expression_2_L6 (n6 + 1) l4_6 v6 f6 = (1, v6, f6) := by
  simp only [gsX_X6_expression_2_L6, if_neg h0, h1, ite11, ite01]
def gsX_X6_expression_1_L6 : Nat → (Int32) → (Nat → Int32) → (Nat → Nat → Int32) → Int32 × (Nat → Int32) × (Nat → Nat → Int32)
  | 0, _, _, _ => (0, (fun _ => 0), (fun _ _ => 0))
  | n6 + 1, l4_6, v6, f6 =>
    if 1600 ≤ l4_6 then
      (1, v6, f6)
    else
      if gsX_X6_joins_1 0 (v6 2) v6 f6 = 1 then
        match gsX_X9_advance_1 v6 f6 with
        | (v12, f13) =>
          match gsX_X6_expression_2 v12 f13 with
          | (r14, v16, f17) =>
            if r14 = 1 then
              match gsX_X4_add_1 (v6 2) 0 v16 f17 with
              | (v20, f21) =>
                let t22 : Int32 := l4_6 + 1
                gsX_X6_expression_1_L6 n6 t22 v20 f21
            else
              (0, v16, f17)
      else
        (1, v6, f6)
def gsX_X6_expression_1 (v : Nat → Int32) (f : Nat → Nat → Int32) : Int32 × (Nat → Int32) × (Nat → Nat → Int32) :=
  match gsX_X6_expression_2 v f with
  | (r1, v3, f4) =>
    if r1 = 1 then
      gsX_X6_expression_1_L6 4294967296 0 v3 f4
    else
      (0, v3, f4)
theorem gsX_X6_expression_1_q4 {v : Nat → Int32} {f : Nat → Nat → Int32} {v3 : Nat → Int32} {f4 : Nat → Nat → Int32} (h0 : gsX_X6_expression_2 v f = (1, v3, f4)) : gsX_X6_expression_1 v f = gsX_X6_expression_1_L6 4294967296 0 v3 f4 := by
  simp only [gsX_X6_expression_1, h0, ite11, ite01]
theorem gsX_X6_expression_1_q5 {v : Nat → Int32} {f : Nat → Nat → Int32} {v3 : Nat → Int32} {f4 : Nat → Nat → Int32} (h0 : gsX_X6_expression_2 v f = (0, v3, f4)) : gsX_X6_expression_1 v f = (0, v3, f4) := by
  simp only [gsX_X6_expression_1, h0, ite11, ite01]
theorem gsX_X6_expression_1_q0 {n6 : Nat} {l4_6 : Int32} {v6 : Nat → Int32} {f6 : Nat → Nat → Int32} (h0 : (1600 ≤ l4_6)) : gsX_X6_expression_1_L6 (n6 + 1) l4_6 v6 f6 = (1, v6, f6) := by
  simp only [gsX_X6_expression_1_L6, if_pos h0]
theorem gsX_X6_expression_1_q1 {n6 : Nat} {l4_6 : Int32} {v6 : Nat → Int32} {f6 : Nat → Nat → Int32} {v12 : Nat → Int32} {f13 : Nat → Nat → Int32} {v16 : Nat → Int32} {f17 : Nat → Nat → Int32} {v20 : Nat → Int32} {f21 : Nat → Nat → Int32} {t22 : Int32} (h0 : ¬ (1600 ≤ l4_6)) (h1 : gsX_X6_joins_1 0 (v6 2) v6 f6 = 1) (h2 : gsX_X9_advance_1 v6 f6 = (v12, f13)) (h3 : gsX_X6_expression_2 v12 f13 = (1, v16, f17)) (h5 : gsX_X4_add_1 (v6 2) 0 v16 f17 = (v20, f21)) (h6 : t22 = l4_6 + 1) : gsX_X6_expression_1_L6 (n6 + 1) l4_6 v6 f6 = gsX_X6_expression_1_L6 n6 t22 v20 f21 := by
  subst h6
  simp only [gsX_X6_expression_1_L6, if_neg h0, h1, h2, h3, h5, ite11, ite01]
theorem gsX_X6_expression_1_q2 {n6 : Nat} {l4_6 : Int32} {v6 : Nat → Int32} {f6 : Nat → Nat → Int32} {v12 : Nat → Int32} {f13 : Nat → Nat → Int32} {v16 : Nat → Int32} {f17 : Nat → Nat → Int32} (h0 : ¬ (1600 ≤ l4_6)) (h1 : gsX_X6_joins_1 0 (v6 2) v6 f6 = 1) (h2 : gsX_X9_advance_1 v6 f6 = (v12, f13)) (h3 : gsX_X6_expression_2 v12 f13 = (0, v16, f17)) : gsX_X6_expression_1_L6 (n6 + 1) l4_6 v6 f6 = (0, v16, f17) := by
  simp only [gsX_X6_expression_1_L6, if_neg h0, h1, h2, h3, ite11, ite01]
theorem gsX_X6_expression_1_q3 {n6 : Nat} {l4_6 : Int32} {v6 : Nat → Int32} {f6 : Nat → Nat → Int32} (h0 : ¬ (1600 ≤ l4_6)) (h1 : gsX_X6_joins_1 0 (v6 2) v6 f6 = 0) : gsX_X6_expression_1_L6 (n6 + 1) l4_6 v6 f6 = (1, v6, f6) := by
  simp only [gsX_X6_expression_1_L6, if_neg h0, h1, ite11, ite01]
def gsX_X7_set_1 (p1 : Int32) (p2 : Int32) (v : Nat → Int32) (f : Nat → Nat → Int32) : (Nat → Int32) × (Nat → Nat → Int32) :=
  if p1 = 104 then
    ((upd v 11 p2), f)
  else
    if p1 = 105 then
      ((upd v 12 p2), f)
    else
      if p1 = 106 then
        ((upd v 13 p2), f)
      else
        if p1 = 107 then
          ((upd v 14 p2), f)
        else
          ((upd v 15 p2), f)
theorem gsX_X7_set_1_q0 {p1 : Int32} {p2 : Int32} {v : Nat → Int32} {f : Nat → Nat → Int32} (h0 : (p1 = 104)) : gsX_X7_set_1 p1 p2 v f = ((upd v 11 p2), f) := by
  simp only [gsX_X7_set_1, if_pos h0]
theorem gsX_X7_set_1_q1 {p1 : Int32} {p2 : Int32} {v : Nat → Int32} {f : Nat → Nat → Int32} (h0 : ¬ (p1 = 104)) (h1 : (p1 = 105)) : gsX_X7_set_1 p1 p2 v f = ((upd v 12 p2), f) := by
  simp only [gsX_X7_set_1, if_neg h0, if_pos h1]
theorem gsX_X7_set_1_q2 {p1 : Int32} {p2 : Int32} {v : Nat → Int32} {f : Nat → Nat → Int32} (h0 : ¬ (p1 = 104)) (h1 : ¬ (p1 = 105)) (h2 : (p1 = 106)) : gsX_X7_set_1 p1 p2 v f = ((upd v 13 p2), f) := by
  simp only [gsX_X7_set_1, if_neg h0, if_neg h1, if_pos h2]
theorem gsX_X7_set_1_q3 {p1 : Int32} {p2 : Int32} {v : Nat → Int32} {f : Nat → Nat → Int32} (h0 : ¬ (p1 = 104)) (h1 : ¬ (p1 = 105)) (h2 : ¬ (p1 = 106)) (h3 : (p1 = 107)) : gsX_X7_set_1 p1 p2 v f = ((upd v 14 p2), f) := by
  simp only [gsX_X7_set_1, if_neg h0, if_neg h1, if_neg h2, if_pos h3]
theorem gsX_X7_set_1_q4 {p1 : Int32} {p2 : Int32} {v : Nat → Int32} {f : Nat → Nat → Int32} (h0 : ¬ (p1 = 104)) (h1 : ¬ (p1 = 105)) (h2 : ¬ (p1 = 106)) (h3 : ¬ (p1 = 107)) : gsX_X7_set_1 p1 p2 v f = ((upd v 15 p2), f) := by
  simp only [gsX_X7_set_1, if_neg h0, if_neg h1, if_neg h2, if_neg h3]
def gsX_X6_settingLine_1 (p1 : Int32) (v : Nat → Int32) (f : Nat → Nat → Int32) : Int32 × (Nat → Int32) × (Nat → Nat → Int32) :=
  match gsX_X6_opened_1 (v 2) v f with
  | (r1, v3, f4) =>
    if r1 = 1 then
      match gsX_X6_numbered_1 p1 v3 f4 with
      | (r6, v8, f9) =>
        if 0 ≤ r6 then
          match gsX_X7_set_1 (v 2) r6 v8 f9 with
          | (v12, f13) =>
            (1, v12, f13)
        else
          (0, v8, f9)
    else
      (0, v3, f4)
theorem gsX_X6_settingLine_1_q0 {p1 : Int32} {v : Nat → Int32} {f : Nat → Nat → Int32} {v3 : Nat → Int32} {f4 : Nat → Nat → Int32} {r6 : Int32} {v8 : Nat → Int32} {f9 : Nat → Nat → Int32} {v12 : Nat → Int32} {f13 : Nat → Nat → Int32} (h0 : gsX_X6_opened_1 (v 2) v f = (1, v3, f4)) (h2 : gsX_X6_numbered_1 p1 v3 f4 = (r6, v8, f9)) (h3 : (0 ≤ r6)) (h4 : gsX_X7_set_1 (v 2) r6 v8 f9 = (v12, f13)) : gsX_X6_settingLine_1 p1 v f = (1, v12, f13) := by
  simp only [gsX_X6_settingLine_1, h0, h2, if_pos h3, h4, ite11, ite01]
theorem gsX_X6_settingLine_1_q1 {p1 : Int32} {v : Nat → Int32} {f : Nat → Nat → Int32} {v3 : Nat → Int32} {f4 : Nat → Nat → Int32} {r6 : Int32} {v8 : Nat → Int32} {f9 : Nat → Nat → Int32} (h0 : gsX_X6_opened_1 (v 2) v f = (1, v3, f4)) (h2 : gsX_X6_numbered_1 p1 v3 f4 = (r6, v8, f9)) (h3 : ¬ (0 ≤ r6)) : gsX_X6_settingLine_1 p1 v f = (0, v8, f9) := by
  simp only [gsX_X6_settingLine_1, h0, h2, if_neg h3, ite11, ite01]
theorem gsX_X6_settingLine_1_q2 {p1 : Int32} {v : Nat → Int32} {f : Nat → Nat → Int32} {v3 : Nat → Int32} {f4 : Nat → Nat → Int32} (h0 : gsX_X6_opened_1 (v 2) v f = (0, v3, f4)) : gsX_X6_settingLine_1 p1 v f = (0, v3, f4) := by
  simp only [gsX_X6_settingLine_1, h0, ite11, ite01]
def gsX_X6_line_1 (v : Nat → Int32) (f : Nat → Nat → Int32) : Int32 × (Nat → Int32) × (Nat → Nat → Int32) :=
  if (v 2) = 101 then
    match gsX_X6_manLine_1 v f with
    | (r2, v4, f5) =>
      if r2 = 1 then
        match gsX_X6_closing_1 v4 f5 with
        | (r7, v9, f10) =>
          if r7 = 1 then
            (1, v9, f10)
          else
            (0, v9, f10)
      else
        (0, v4, f5)
  else
    if (v 2) = 102 then
      match gsX_X6_coatLine_1 v f with
      | (r13, v15, f16) =>
        if r13 = 1 then
          match gsX_X6_closing_1 v15 f16 with
          | (r18, v20, f21) =>
            if r18 = 1 then
              (1, v20, f21)
            else
              (0, v20, f21)
        else
          (0, v15, f16)
    else
      if (v 2) = 103 then
        match gsX_X6_opened_1 103 v f with
        | (r24, v26, f27) =>
          if r24 = 1 then
            match gsX_X6_expression_1 v26 f27 with
            | (r29, v31, f32) =>
              if r29 = 1 then
                match gsX_X6_closing_1 v31 f32 with
                | (r34, v36, f37) =>
                  if r34 = 1 then
                    (1, v36, f37)
                  else
                    (0, v36, f37)
              else
                (0, v31, f32)
          else
            (0, v26, f27)
      else
        if (v 2) = 104 then
          match gsX_X6_settingLine_1 999 v f with
          | (r40, v42, f43) =>
            if r40 = 1 then
              match gsX_X6_closing_1 v42 f43 with
              | (r45, v47, f48) =>
                if r45 = 1 then
                  (1, v47, f48)
                else
                  (0, v47, f48)
            else
              (0, v42, f43)
        else
          if (v 2) = 105 then
            match gsX_X6_settingLine_1 999 v f with
            | (r51, v53, f54) =>
              if r51 = 1 then
                match gsX_X6_closing_1 v53 f54 with
                | (r56, v58, f59) =>
                  if r56 = 1 then
                    (1, v58, f59)
                  else
                    (0, v58, f59)
              else
                (0, v53, f54)
          else
            if (v 2) = 106 then
              match gsX_X6_settingLine_1 99 v f with
              | (r62, v64, f65) =>
                if r62 = 1 then
                  match gsX_X6_closing_1 v64 f65 with
                  | (r67, v69, f70) =>
                    if r67 = 1 then
                      (1, v69, f70)
                    else
                      (0, v69, f70)
                else
                  (0, v64, f65)
            else
              if (v 2) = 107 then
                match gsX_X6_settingLine_1 100 v f with
                | (r73, v75, f76) =>
                  if r73 = 1 then
                    match gsX_X6_closing_1 v75 f76 with
                    | (r78, v80, f81) =>
                      if r78 = 1 then
                        (1, v80, f81)
                      else
                        (0, v80, f81)
                  else
                    (0, v75, f76)
              else
                if (v 2) = 108 then
                  match gsX_X6_settingLine_1 999 v f with
                  | (r84, v86, f87) =>
                    if r84 = 1 then
                      match gsX_X6_closing_1 v86 f87 with
                      | (r89, v91, f92) =>
                        if r89 = 1 then
                          (1, v91, f92)
                        else
                          (0, v91, f92)
                    else
                      (0, v86, f87)
                else
                  match gsX_X6_refuse_1 v f with
                  | (r94, v96, f97) =>
                    if r94 = 1 then
                      (1, v96, f97)
                    else
                      (0, v96, f97)
theorem gsX_X6_line_1_q0 {v : Nat → Int32} {f : Nat → Nat → Int32} {v4 : Nat → Int32} {f5 : Nat → Nat → Int32} {v9 : Nat → Int32} {f10 : Nat → Nat → Int32} (h0 : ((v 2) = 101)) (h1 : gsX_X6_manLine_1 v f = (1, v4, f5)) (h3 : gsX_X6_closing_1 v4 f5 = (1, v9, f10)) : gsX_X6_line_1 v f = (1, v9, f10) := by
  simp only [gsX_X6_line_1, if_pos h0, h1, h3, ite11, ite01]
theorem gsX_X6_line_1_q1 {v : Nat → Int32} {f : Nat → Nat → Int32} {v4 : Nat → Int32} {f5 : Nat → Nat → Int32} {v9 : Nat → Int32} {f10 : Nat → Nat → Int32} (h0 : ((v 2) = 101)) (h1 : gsX_X6_manLine_1 v f = (1, v4, f5)) (h3 : gsX_X6_closing_1 v4 f5 = (0, v9, f10)) : gsX_X6_line_1 v f = (0, v9, f10) := by
  simp only [gsX_X6_line_1, if_pos h0, h1, h3, ite11, ite01]
theorem gsX_X6_line_1_q2 {v : Nat → Int32} {f : Nat → Nat → Int32} {v4 : Nat → Int32} {f5 : Nat → Nat → Int32} (h0 : ((v 2) = 101)) (h1 : gsX_X6_manLine_1 v f = (0, v4, f5)) : gsX_X6_line_1 v f = (0, v4, f5) := by
  simp only [gsX_X6_line_1, if_pos h0, h1, ite11, ite01]
theorem gsX_X6_line_1_q3 {v : Nat → Int32} {f : Nat → Nat → Int32} {v15 : Nat → Int32} {f16 : Nat → Nat → Int32} {v20 : Nat → Int32} {f21 : Nat → Nat → Int32} (h0 : ¬ ((v 2) = 101)) (h1 : ((v 2) = 102)) (h2 : gsX_X6_coatLine_1 v f = (1, v15, f16)) (h4 : gsX_X6_closing_1 v15 f16 = (1, v20, f21)) : gsX_X6_line_1 v f = (1, v20, f21) := by
  simp only [gsX_X6_line_1, if_neg h0, if_pos h1, h2, h4, ite11, ite01]
theorem gsX_X6_line_1_q4 {v : Nat → Int32} {f : Nat → Nat → Int32} {v15 : Nat → Int32} {f16 : Nat → Nat → Int32} {v20 : Nat → Int32} {f21 : Nat → Nat → Int32} (h0 : ¬ ((v 2) = 101)) (h1 : ((v 2) = 102)) (h2 : gsX_X6_coatLine_1 v f = (1, v15, f16)) (h4 : gsX_X6_closing_1 v15 f16 = (0, v20, f21)) : gsX_X6_line_1 v f = (0, v20, f21) := by
  simp only [gsX_X6_line_1, if_neg h0, if_pos h1, h2, h4, ite11, ite01]
theorem gsX_X6_line_1_q5 {v : Nat → Int32} {f : Nat → Nat → Int32} {v15 : Nat → Int32} {f16 : Nat → Nat → Int32} (h0 : ¬ ((v 2) = 101)) (h1 : ((v 2) = 102)) (h2 : gsX_X6_coatLine_1 v f = (0, v15, f16)) : gsX_X6_line_1 v f = (0, v15, f16) := by
  simp only [gsX_X6_line_1, if_neg h0, if_pos h1, h2, ite11, ite01]
theorem gsX_X6_line_1_q6 {v : Nat → Int32} {f : Nat → Nat → Int32} {v26 : Nat → Int32} {f27 : Nat → Nat → Int32} {v31 : Nat → Int32} {f32 : Nat → Nat → Int32} {v36 : Nat → Int32} {f37 : Nat → Nat → Int32} (h0 : ¬ ((v 2) = 101)) (h1 : ¬ ((v 2) = 102)) (h2 : ((v 2) = 103)) (h3 : gsX_X6_opened_1 103 v f = (1, v26, f27)) (h5 : gsX_X6_expression_1 v26 f27 = (1, v31, f32)) (h7 : gsX_X6_closing_1 v31 f32 = (1, v36, f37)) : gsX_X6_line_1 v f = (1, v36, f37) := by
  simp only [gsX_X6_line_1, if_neg h0, if_neg h1, if_pos h2, h3, h5, h7, ite11, ite01]
theorem gsX_X6_line_1_q7 {v : Nat → Int32} {f : Nat → Nat → Int32} {v26 : Nat → Int32} {f27 : Nat → Nat → Int32} {v31 : Nat → Int32} {f32 : Nat → Nat → Int32} {v36 : Nat → Int32} {f37 : Nat → Nat → Int32} (h0 : ¬ ((v 2) = 101)) (h1 : ¬ ((v 2) = 102)) (h2 : ((v 2) = 103)) (h3 : gsX_X6_opened_1 103 v f = (1, v26, f27)) (h5 : gsX_X6_expression_1 v26 f27 = (1, v31, f32)) (h7 : gsX_X6_closing_1 v31 f32 = (0, v36, f37)) : gsX_X6_line_1 v f = (0, v36, f37) := by
  simp only [gsX_X6_line_1, if_neg h0, if_neg h1, if_pos h2, h3, h5, h7, ite11, ite01]
theorem gsX_X6_line_1_q8 {v : Nat → Int32} {f : Nat → Nat → Int32} {v26 : Nat → Int32} {f27 : Nat → Nat → Int32} {v31 : Nat → Int32} {f32 : Nat → Nat → Int32} (h0 : ¬ ((v 2) = 101)) (h1 : ¬ ((v 2) = 102)) (h2 : ((v 2) = 103)) (h3 : gsX_X6_opened_1 103 v f = (1, v26, f27)) (h5 : gsX_X6_expression_1 v26 f27 = (0, v31, f32)) : gsX_X6_line_1 v f = (0, v31, f32) := by
  simp only [gsX_X6_line_1, if_neg h0, if_neg h1, if_pos h2, h3, h5, ite11, ite01]
theorem gsX_X6_line_1_q9 {v : Nat → Int32} {f : Nat → Nat → Int32} {v26 : Nat → Int32} {f27 : Nat → Nat → Int32} (h0 : ¬ ((v 2) = 101)) (h1 : ¬ ((v 2) = 102)) (h2 : ((v 2) = 103)) (h3 : gsX_X6_opened_1 103 v f = (0, v26, f27)) : gsX_X6_line_1 v f = (0, v26, f27) := by
  simp only [gsX_X6_line_1, if_neg h0, if_neg h1, if_pos h2, h3, ite11, ite01]
theorem gsX_X6_line_1_q10 {v : Nat → Int32} {f : Nat → Nat → Int32} {v42 : Nat → Int32} {f43 : Nat → Nat → Int32} {v47 : Nat → Int32} {f48 : Nat → Nat → Int32} (h0 : ¬ ((v 2) = 101)) (h1 : ¬ ((v 2) = 102)) (h2 : ¬ ((v 2) = 103)) (h3 : ((v 2) = 104)) (h4 : gsX_X6_settingLine_1 999 v f = (1, v42, f43)) (h6 : gsX_X6_closing_1 v42 f43 = (1, v47, f48)) : gsX_X6_line_1 v f = (1, v47, f48) := by
  simp only [gsX_X6_line_1, if_neg h0, if_neg h1, if_neg h2, if_pos h3, h4, h6, ite11, ite01]
theorem gsX_X6_line_1_q11 {v : Nat → Int32} {f : Nat → Nat → Int32} {v42 : Nat → Int32} {f43 : Nat → Nat → Int32} {v47 : Nat → Int32} {f48 : Nat → Nat → Int32} (h0 : ¬ ((v 2) = 101)) (h1 : ¬ ((v 2) = 102)) (h2 : ¬ ((v 2) = 103)) (h3 : ((v 2) = 104)) (h4 : gsX_X6_settingLine_1 999 v f = (1, v42, f43)) (h6 : gsX_X6_closing_1 v42 f43 = (0, v47, f48)) : gsX_X6_line_1 v f = (0, v47, f48) := by
  simp only [gsX_X6_line_1, if_neg h0, if_neg h1, if_neg h2, if_pos h3, h4, h6, ite11, ite01]
theorem gsX_X6_line_1_q12 {v : Nat → Int32} {f : Nat → Nat → Int32} {v42 : Nat → Int32} {f43 : Nat → Nat → Int32} (h0 : ¬ ((v 2) = 101)) (h1 : ¬ ((v 2) = 102)) (h2 : ¬ ((v 2) = 103)) (h3 : ((v 2) = 104)) (h4 : gsX_X6_settingLine_1 999 v f = (0, v42, f43)) : gsX_X6_line_1 v f = (0, v42, f43) := by
  simp only [gsX_X6_line_1, if_neg h0, if_neg h1, if_neg h2, if_pos h3, h4, ite11, ite01]
theorem gsX_X6_line_1_q13 {v : Nat → Int32} {f : Nat → Nat → Int32} {v53 : Nat → Int32} {f54 : Nat → Nat → Int32} {v58 : Nat → Int32} {f59 : Nat → Nat → Int32} (h0 : ¬ ((v 2) = 101)) (h1 : ¬ ((v 2) = 102)) (h2 : ¬ ((v 2) = 103)) (h3 : ¬ ((v 2) = 104)) (h4 : ((v 2) = 105)) (h5 : gsX_X6_settingLine_1 999 v f = (1, v53, f54)) (h7 : gsX_X6_closing_1 v53 f54 = (1, v58, f59)) : gsX_X6_line_1 v f = (1, v58, f59) := by
  simp only [gsX_X6_line_1, if_neg h0, if_neg h1, if_neg h2, if_neg h3, if_pos h4, h5, h7, ite11, ite01]
theorem gsX_X6_line_1_q14 {v : Nat → Int32} {f : Nat → Nat → Int32} {v53 : Nat → Int32} {f54 : Nat → Nat → Int32} {v58 : Nat → Int32} {f59 : Nat → Nat → Int32} (h0 : ¬ ((v 2) = 101)) (h1 : ¬ ((v 2) = 102)) (h2 : ¬ ((v 2) = 103)) (h3 : ¬ ((v 2) = 104)) (h4 : ((v 2) = 105)) (h5 : gsX_X6_settingLine_1 999 v f = (1, v53, f54)) (h7 : gsX_X6_closing_1 v53 f54 = (0, v58, f59)) : gsX_X6_line_1 v f = (0, v58, f59) := by
  simp only [gsX_X6_line_1, if_neg h0, if_neg h1, if_neg h2, if_neg h3, if_pos h4, h5, h7, ite11, ite01]
theorem gsX_X6_line_1_q15 {v : Nat → Int32} {f : Nat → Nat → Int32} {v53 : Nat → Int32} {f54 : Nat → Nat → Int32} (h0 : ¬ ((v 2) = 101)) (h1 : ¬ ((v 2) = 102)) (h2 : ¬ ((v 2) = 103)) (h3 : ¬ ((v 2) = 104)) (h4 : ((v 2) = 105)) (h5 : gsX_X6_settingLine_1 999 v f = (0, v53, f54)) : gsX_X6_line_1 v f = (0, v53, f54) := by
  simp only [gsX_X6_line_1, if_neg h0, if_neg h1, if_neg h2, if_neg h3, if_pos h4, h5, ite11, ite01]
theorem gsX_X6_line_1_q16 {v : Nat → Int32} {f : Nat → Nat → Int32} {v64 : Nat → Int32} {f65 : Nat → Nat → Int32} {v69 : Nat → Int32} {f70 : Nat → Nat → Int32} (h0 : ¬ ((v 2) = 101)) (h1 : ¬ ((v 2) = 102)) (h2 : ¬ ((v 2) = 103)) (h3 : ¬ ((v 2) = 104)) (h4 : ¬ ((v 2) = 105)) (h5 : ((v 2) = 106)) (h6 : gsX_X6_settingLine_1 99 v f = (1, v64, f65)) (h8 : gsX_X6_closing_1 v64 f65 = (1, v69, f70)) : gsX_X6_line_1 v f = (1, v69, f70) := by
  simp only [gsX_X6_line_1, if_neg h0, if_neg h1, if_neg h2, if_neg h3, if_neg h4, if_pos h5, h6, h8, ite11, ite01]
theorem gsX_X6_line_1_q17 {v : Nat → Int32} {f : Nat → Nat → Int32} {v64 : Nat → Int32} {f65 : Nat → Nat → Int32} {v69 : Nat → Int32} {f70 : Nat → Nat → Int32} (h0 : ¬ ((v 2) = 101)) (h1 : ¬ ((v 2) = 102)) (h2 : ¬ ((v 2) = 103)) (h3 : ¬ ((v 2) = 104)) (h4 : ¬ ((v 2) = 105)) (h5 : ((v 2) = 106)) (h6 : gsX_X6_settingLine_1 99 v f = (1, v64, f65)) (h8 : gsX_X6_closing_1 v64 f65 = (0, v69, f70)) : gsX_X6_line_1 v f = (0, v69, f70) := by
  simp only [gsX_X6_line_1, if_neg h0, if_neg h1, if_neg h2, if_neg h3, if_neg h4, if_pos h5, h6, h8, ite11, ite01]
theorem gsX_X6_line_1_q18 {v : Nat → Int32} {f : Nat → Nat → Int32} {v64 : Nat → Int32} {f65 : Nat → Nat → Int32} (h0 : ¬ ((v 2) = 101)) (h1 : ¬ ((v 2) = 102)) (h2 : ¬ ((v 2) = 103)) (h3 : ¬ ((v 2) = 104)) (h4 : ¬ ((v 2) = 105)) (h5 : ((v 2) = 106)) (h6 : gsX_X6_settingLine_1 99 v f = (0, v64, f65)) : gsX_X6_line_1 v f = (0, v64, f65) := by
  simp only [gsX_X6_line_1, if_neg h0, if_neg h1, if_neg h2, if_neg h3, if_neg h4, if_pos h5, h6, ite11, ite01]
theorem gsX_X6_line_1_q19 {v : Nat → Int32} {f : Nat → Nat → Int32} {v75 : Nat → Int32} {f76 : Nat → Nat → Int32} {v80 : Nat → Int32} {f81 : Nat → Nat → Int32} (h0 : ¬ ((v 2) = 101)) (h1 : ¬ ((v 2) = 102)) (h2 : ¬ ((v 2) = 103)) (h3 : ¬ ((v 2) = 104)) (h4 : ¬ ((v 2) = 105)) (h5 : ¬ ((v 2) = 106)) (h6 : ((v 2) = 107)) (h7 : gsX_X6_settingLine_1 100 v f = (1, v75, f76)) (h9 : gsX_X6_closing_1 v75 f76 = (1, v80, f81)) : gsX_X6_line_1 v f = (1, v80, f81) := by
  simp only [gsX_X6_line_1, if_neg h0, if_neg h1, if_neg h2, if_neg h3, if_neg h4, if_neg h5, if_pos h6, h7, h9, ite11, ite01]
theorem gsX_X6_line_1_q20 {v : Nat → Int32} {f : Nat → Nat → Int32} {v75 : Nat → Int32} {f76 : Nat → Nat → Int32} {v80 : Nat → Int32} {f81 : Nat → Nat → Int32} (h0 : ¬ ((v 2) = 101)) (h1 : ¬ ((v 2) = 102)) (h2 : ¬ ((v 2) = 103)) (h3 : ¬ ((v 2) = 104)) (h4 : ¬ ((v 2) = 105)) (h5 : ¬ ((v 2) = 106)) (h6 : ((v 2) = 107)) (h7 : gsX_X6_settingLine_1 100 v f = (1, v75, f76)) (h9 : gsX_X6_closing_1 v75 f76 = (0, v80, f81)) : gsX_X6_line_1 v f = (0, v80, f81) := by
  simp only [gsX_X6_line_1, if_neg h0, if_neg h1, if_neg h2, if_neg h3, if_neg h4, if_neg h5, if_pos h6, h7, h9, ite11, ite01]
theorem gsX_X6_line_1_q21 {v : Nat → Int32} {f : Nat → Nat → Int32} {v75 : Nat → Int32} {f76 : Nat → Nat → Int32} (h0 : ¬ ((v 2) = 101)) (h1 : ¬ ((v 2) = 102)) (h2 : ¬ ((v 2) = 103)) (h3 : ¬ ((v 2) = 104)) (h4 : ¬ ((v 2) = 105)) (h5 : ¬ ((v 2) = 106)) (h6 : ((v 2) = 107)) (h7 : gsX_X6_settingLine_1 100 v f = (0, v75, f76)) : gsX_X6_line_1 v f = (0, v75, f76) := by
  simp only [gsX_X6_line_1, if_neg h0, if_neg h1, if_neg h2, if_neg h3, if_neg h4, if_neg h5, if_pos h6, h7, ite11, ite01]
theorem gsX_X6_line_1_q22 {v : Nat → Int32} {f : Nat → Nat → Int32} {v86 : Nat → Int32} {f87 : Nat → Nat → Int32} {v91 : Nat → Int32} {f92 : Nat → Nat → Int32} (h0 : ¬ ((v 2) = 101)) (h1 : ¬ ((v 2) = 102)) (h2 : ¬ ((v 2) = 103)) (h3 : ¬ ((v 2) = 104)) (h4 : ¬ ((v 2) = 105)) (h5 : ¬ ((v 2) = 106)) (h6 : ¬ ((v 2) = 107)) (h7 : ((v 2) = 108)) (h8 : gsX_X6_settingLine_1 999 v f = (1, v86, f87)) (h10 : gsX_X6_closing_1 v86 f87 = (1, v91, f92)) : gsX_X6_line_1 v f = (1, v91, f92) := by
  simp only [gsX_X6_line_1, if_neg h0, if_neg h1, if_neg h2, if_neg h3, if_neg h4, if_neg h5, if_neg h6, if_pos h7, h8, h10, ite11, ite01]
theorem gsX_X6_line_1_q23 {v : Nat → Int32} {f : Nat → Nat → Int32} {v86 : Nat → Int32} {f87 : Nat → Nat → Int32} {v91 : Nat → Int32} {f92 : Nat → Nat → Int32} (h0 : ¬ ((v 2) = 101)) (h1 : ¬ ((v 2) = 102)) (h2 : ¬ ((v 2) = 103)) (h3 : ¬ ((v 2) = 104)) (h4 : ¬ ((v 2) = 105)) (h5 : ¬ ((v 2) = 106)) (h6 : ¬ ((v 2) = 107)) (h7 : ((v 2) = 108)) (h8 : gsX_X6_settingLine_1 999 v f = (1, v86, f87)) (h10 : gsX_X6_closing_1 v86 f87 = (0, v91, f92)) : gsX_X6_line_1 v f = (0, v91, f92) := by
  simp only [gsX_X6_line_1, if_neg h0, if_neg h1, if_neg h2, if_neg h3, if_neg h4, if_neg h5, if_neg h6, if_pos h7, h8, h10, ite11, ite01]
theorem gsX_X6_line_1_q24 {v : Nat → Int32} {f : Nat → Nat → Int32} {v86 : Nat → Int32} {f87 : Nat → Nat → Int32} (h0 : ¬ ((v 2) = 101)) (h1 : ¬ ((v 2) = 102)) (h2 : ¬ ((v 2) = 103)) (h3 : ¬ ((v 2) = 104)) (h4 : ¬ ((v 2) = 105)) (h5 : ¬ ((v 2) = 106)) (h6 : ¬ ((v 2) = 107)) (h7 : ((v 2) = 108)) (h8 : gsX_X6_settingLine_1 999 v f = (0, v86, f87)) : gsX_X6_line_1 v f = (0, v86, f87) := by
  simp only [gsX_X6_line_1, if_neg h0, if_neg h1, if_neg h2, if_neg h3, if_neg h4, if_neg h5, if_neg h6, if_pos h7, h8, ite11, ite01]
theorem gsX_X6_line_1_q25 {v : Nat → Int32} {f : Nat → Nat → Int32} {v96 : Nat → Int32} {f97 : Nat → Nat → Int32} (h0 : ¬ ((v 2) = 101)) (h1 : ¬ ((v 2) = 102)) (h2 : ¬ ((v 2) = 103)) (h3 : ¬ ((v 2) = 104)) (h4 : ¬ ((v 2) = 105)) (h5 : ¬ ((v 2) = 106)) (h6 : ¬ ((v 2) = 107)) (h7 : ¬ ((v 2) = 108)) (h8 : gsX_X6_refuse_1 v f = (1, v96, f97)) : gsX_X6_line_1 v f = (1, v96, f97) := by
  simp only [gsX_X6_line_1, if_neg h0, if_neg h1, if_neg h2, if_neg h3, if_neg h4, if_neg h5, if_neg h6, if_neg h7, h8, ite11, ite01]
theorem gsX_X6_line_1_q26 {v : Nat → Int32} {f : Nat → Nat → Int32} {v96 : Nat → Int32} {f97 : Nat → Nat → Int32} (h0 : ¬ ((v 2) = 101)) (h1 : ¬ ((v 2) = 102)) (h2 : ¬ ((v 2) = 103)) (h3 : ¬ ((v 2) = 104)) (h4 : ¬ ((v 2) = 105)) (h5 : ¬ ((v 2) = 106)) (h6 : ¬ ((v 2) = 107)) (h7 : ¬ ((v 2) = 108)) (h8 : gsX_X6_refuse_1 v f = (0, v96, f97)) : gsX_X6_line_1 v f = (0, v96, f97) := by
  simp only [gsX_X6_line_1, if_neg h0, if_neg h1, if_neg h2, if_neg h3, if_neg h4, if_neg h5, if_neg h6, if_neg h7, h8, ite11, ite01]
def gsX_X6_read_1_L7 : Nat → (Int32) → (Nat → Int32) → (Nat → Nat → Int32) → Int32 × (Nat → Int32) × (Nat → Nat → Int32)
  | 0, _, _, _ => (0, (fun _ => 0), (fun _ _ => 0))
  | n7 + 1, l1_7, v7, f7 =>
    if 1600 ≤ l1_7 then
      (1, v7, f7)
    else
      if (v7 2) = 0 then
        (1, v7, f7)
      else
        match gsX_X6_line_1 v7 f7 with
        | (r10, v12, f13) =>
          if r10 = 1 then
            let t15 : Int32 := l1_7 + 1
            gsX_X6_read_1_L7 n7 t15 v12 f13
          else
            (0, v12, f13)
def gsX_X6_read_1 (v : Nat → Int32) (f : Nat → Nat → Int32) : Int32 × (Nat → Int32) × (Nat → Nat → Int32) :=
  match gsX_X7_clear_1 v f with
  | (v2, f3) =>
    match gsX_X9_rewind_1 (upd (upd (upd v2 6 0) 7 0) 8 (-1)) f3 with
    | (v5, f6) =>
      gsX_X6_read_1_L7 4294967296 0 v5 f6
theorem gsX_X6_read_1_q4 {v : Nat → Int32} {f : Nat → Nat → Int32} {v2 : Nat → Int32} {f3 : Nat → Nat → Int32} {v5 : Nat → Int32} {f6 : Nat → Nat → Int32} (h0 : gsX_X7_clear_1 v f = (v2, f3)) (h1 : gsX_X9_rewind_1 (upd (upd (upd v2 6 0) 7 0) 8 (-1)) f3 = (v5, f6)) : gsX_X6_read_1 v f = gsX_X6_read_1_L7 4294967296 0 v5 f6 := by
  simp only [gsX_X6_read_1, h0, h1]
theorem gsX_X6_read_1_q0 {n7 : Nat} {l1_7 : Int32} {v7 : Nat → Int32} {f7 : Nat → Nat → Int32} (h0 : (1600 ≤ l1_7)) : gsX_X6_read_1_L7 (n7 + 1) l1_7 v7 f7 = (1, v7, f7) := by
  simp only [gsX_X6_read_1_L7, if_pos h0]
theorem gsX_X6_read_1_q1 {n7 : Nat} {l1_7 : Int32} {v7 : Nat → Int32} {f7 : Nat → Nat → Int32} (h0 : ¬ (1600 ≤ l1_7)) (h1 : ((v7 2) = 0)) : gsX_X6_read_1_L7 (n7 + 1) l1_7 v7 f7 = (1, v7, f7) := by
  simp only [gsX_X6_read_1_L7, if_neg h0, if_pos h1]
theorem gsX_X6_read_1_q2 {n7 : Nat} {l1_7 : Int32} {v7 : Nat → Int32} {f7 : Nat → Nat → Int32} {v12 : Nat → Int32} {f13 : Nat → Nat → Int32} {t15 : Int32} (h0 : ¬ (1600 ≤ l1_7)) (h1 : ¬ ((v7 2) = 0)) (h2 : gsX_X6_line_1 v7 f7 = (1, v12, f13)) (h4 : t15 = l1_7 + 1) : gsX_X6_read_1_L7 (n7 + 1) l1_7 v7 f7 = gsX_X6_read_1_L7 n7 t15 v12 f13 := by
  subst h4
  simp only [gsX_X6_read_1_L7, if_neg h0, if_neg h1, h2, ite11, ite01]
theorem gsX_X6_read_1_q3 {n7 : Nat} {l1_7 : Int32} {v7 : Nat → Int32} {f7 : Nat → Nat → Int32} {v12 : Nat → Int32} {f13 : Nat → Nat → Int32} (h0 : ¬ (1600 ≤ l1_7)) (h1 : ¬ ((v7 2) = 0)) (h2 : gsX_X6_line_1 v7 f7 = (0, v12, f13)) : gsX_X6_read_1_L7 (n7 + 1) l1_7 v7 f7 = (0, v12, f13) := by
  simp only [gsX_X6_read_1_L7, if_neg h0, if_neg h1, h2, ite11, ite01]
def gsX_X4_copy_1 (v : Nat → Int32) (f : Nat → Nat → Int32) : (Nat → Int32) × (Nat → Nat → Int32) :=
  let f1 : Nat → Nat → Int32 := upd2 f 11 (va_cpy (f 3) (f 11) (0 : Int32).toNatClampNeg (0 : Int32).toNatClampNeg (300 : Int32).toNatClampNeg)
  let f2 : Nat → Nat → Int32 := upd2 f1 12 (va_cpy (f1 4) (f1 12) (0 : Int32).toNatClampNeg (0 : Int32).toNatClampNeg (300 : Int32).toNatClampNeg)
  ((upd (upd v 18 (v 16)) 19 (v 17)), f2)
theorem gsX_X4_copy_1_q0 {v : Nat → Int32} {f : Nat → Nat → Int32} {f1 : Nat → Nat → Int32} {f2 : Nat → Nat → Int32} (h0 : f1 = upd2 f 11 (va_cpy (f 3) (f 11) (0 : Int32).toNatClampNeg (0 : Int32).toNatClampNeg (300 : Int32).toNatClampNeg)) (h1 : f2 = upd2 f1 12 (va_cpy (f1 4) (f1 12) (0 : Int32).toNatClampNeg (0 : Int32).toNatClampNeg (300 : Int32).toNatClampNeg)) : gsX_X4_copy_1 v f = ((upd (upd v 18 (v 16)) 19 (v 17)), f2) := by
  subst h0 h1
  simp only [gsX_X4_copy_1]
def gsX_X7_copy_1 (v : Nat → Int32) (f : Nat → Nat → Int32) : (Nat → Int32) × (Nat → Nat → Int32) :=
  let f1 : Nat → Nat → Int32 := upd2 f 9 (va_cpy (f 1) (f 9) (0 : Int32).toNatClampNeg (0 : Int32).toNatClampNeg (18 : Int32).toNatClampNeg)
  let f2 : Nat → Nat → Int32 := upd2 f1 10 (va_cpy (f1 2) (f1 10) (0 : Int32).toNatClampNeg (0 : Int32).toNatClampNeg (24 : Int32).toNatClampNeg)
  match gsX_X4_copy_1 v f2 with
  | (v4, f5) =>
    ((upd (upd (upd (upd (upd (upd (upd v4 31 (v 9)) 32 (v 10)) 33 (v4 11)) 34 (v4 12)) 35 (v4 13)) 36 (v4 14)) 37 (v4 15)), f5)
theorem gsX_X7_copy_1_q0 {v : Nat → Int32} {f : Nat → Nat → Int32} {f1 : Nat → Nat → Int32} {f2 : Nat → Nat → Int32} {v4 : Nat → Int32} {f5 : Nat → Nat → Int32} (h0 : f1 = upd2 f 9 (va_cpy (f 1) (f 9) (0 : Int32).toNatClampNeg (0 : Int32).toNatClampNeg (18 : Int32).toNatClampNeg)) (h1 : f2 = upd2 f1 10 (va_cpy (f1 2) (f1 10) (0 : Int32).toNatClampNeg (0 : Int32).toNatClampNeg (24 : Int32).toNatClampNeg)) (h2 : gsX_X4_copy_1 v f2 = (v4, f5)) : gsX_X7_copy_1 v f = ((upd (upd (upd (upd (upd (upd (upd v4 31 (v 9)) 32 (v 10)) 33 (v4 11)) 34 (v4 12)) 35 (v4 13)) 36 (v4 14)) 37 (v4 15)), f5) := by
  subst h0 h1
  simp only [gsX_X7_copy_1, h2]
def gsX_X7_hasCoat_1 (p1 : Int32) (v : Nat → Int32) (f : Nat → Nat → Int32) : Int32 :=
  if p1 < 0 then
    0
  else
    if (v 32) ≤ p1 then
      0
    else
      1
theorem gsX_X7_hasCoat_1_q0 {p1 : Int32} {v : Nat → Int32} {f : Nat → Nat → Int32} (h0 : (p1 < 0)) : gsX_X7_hasCoat_1 p1 v f = 0 := by
  simp only [gsX_X7_hasCoat_1, if_pos h0]
theorem gsX_X7_hasCoat_1_q1 {p1 : Int32} {v : Nat → Int32} {f : Nat → Nat → Int32} (h0 : ¬ (p1 < 0)) (h1 : ((v 32) ≤ p1)) : gsX_X7_hasCoat_1 p1 v f = 0 := by
  simp only [gsX_X7_hasCoat_1, if_neg h0, if_pos h1]
theorem gsX_X7_hasCoat_1_q2 {p1 : Int32} {v : Nat → Int32} {f : Nat → Nat → Int32} (h0 : ¬ (p1 < 0)) (h1 : ¬ ((v 32) ≤ p1)) : gsX_X7_hasCoat_1 p1 v f = 1 := by
  simp only [gsX_X7_hasCoat_1, if_neg h0, if_neg h1]
def gsX_X7_coatPart_1 (p1 : Int32) (p2 : Int32) (v : Nat → Int32) (f : Nat → Nat → Int32) : Int32 :=
  if gsX_X7_hasCoat_1 p2 v f = 1 then
    if p1 < 0 then
      0
    else
      if 4 ≤ p1 then
        0
      else
        let t6 : Int32 := p1 * 6
        let t8 : Int32 := t6 + p2
        let t11 : Int32 := f 10 (t8).toNatClampNeg
        t11
  else
    0
theorem gsX_X7_coatPart_1_q0 {p1 : Int32} {p2 : Int32} {v : Nat → Int32} {f : Nat → Nat → Int32} (h0 : gsX_X7_hasCoat_1 p2 v f = 1) (h1 : (p1 < 0)) : gsX_X7_coatPart_1 p1 p2 v f = 0 := by
  simp only [gsX_X7_coatPart_1, h0, if_pos h1, ite11, ite01]
theorem gsX_X7_coatPart_1_q1 {p1 : Int32} {p2 : Int32} {v : Nat → Int32} {f : Nat → Nat → Int32} (h0 : gsX_X7_hasCoat_1 p2 v f = 1) (h1 : ¬ (p1 < 0)) (h2 : (4 ≤ p1)) : gsX_X7_coatPart_1 p1 p2 v f = 0 := by
  simp only [gsX_X7_coatPart_1, h0, if_neg h1, if_pos h2, ite11, ite01]
theorem gsX_X7_coatPart_1_q2 {p1 : Int32} {p2 : Int32} {v : Nat → Int32} {f : Nat → Nat → Int32} {t6 : Int32} {t8 : Int32} {t11 : Int32} (h0 : gsX_X7_hasCoat_1 p2 v f = 1) (h1 : ¬ (p1 < 0)) (h2 : ¬ (4 ≤ p1)) (h3 : t6 = p1 * 6) (h4 : t8 = t6 + p2) (h5 : t11 = f 10 (t8).toNatClampNeg) : gsX_X7_coatPart_1 p1 p2 v f = t11 := by
  subst h3 h4 h5
  simp only [gsX_X7_coatPart_1, h0, if_neg h1, if_neg h2, ite11, ite01]
theorem gsX_X7_coatPart_1_q3 {p1 : Int32} {p2 : Int32} {v : Nat → Int32} {f : Nat → Nat → Int32} (h0 : gsX_X7_hasCoat_1 p2 v f = 0) : gsX_X7_coatPart_1 p1 p2 v f = 0 := by
  simp only [gsX_X7_coatPart_1, h0, ite11, ite01]
def gsX_X7_hasMan_1 (p1 : Int32) (v : Nat → Int32) (f : Nat → Nat → Int32) : Int32 :=
  if p1 < 0 then
    0
  else
    if (v 31) ≤ p1 then
      0
    else
      1
theorem gsX_X7_hasMan_1_q0 {p1 : Int32} {v : Nat → Int32} {f : Nat → Nat → Int32} (h0 : (p1 < 0)) : gsX_X7_hasMan_1 p1 v f = 0 := by
  simp only [gsX_X7_hasMan_1, if_pos h0]
theorem gsX_X7_hasMan_1_q1 {p1 : Int32} {v : Nat → Int32} {f : Nat → Nat → Int32} (h0 : ¬ (p1 < 0)) (h1 : ((v 31) ≤ p1)) : gsX_X7_hasMan_1 p1 v f = 0 := by
  simp only [gsX_X7_hasMan_1, if_neg h0, if_pos h1]
theorem gsX_X7_hasMan_1_q2 {p1 : Int32} {v : Nat → Int32} {f : Nat → Nat → Int32} (h0 : ¬ (p1 < 0)) (h1 : ¬ ((v 31) ≤ p1)) : gsX_X7_hasMan_1 p1 v f = 1 := by
  simp only [gsX_X7_hasMan_1, if_neg h0, if_neg h1]
def gsX_X7_manPart_1 (p1 : Int32) (p2 : Int32) (v : Nat → Int32) (f : Nat → Nat → Int32) : Int32 :=
  if gsX_X7_hasMan_1 p2 v f = 1 then
    if p1 < 0 then
      0
    else
      if 3 ≤ p1 then
        0
      else
        let t6 : Int32 := p1 * 6
        let t8 : Int32 := t6 + p2
        let t11 : Int32 := f 9 (t8).toNatClampNeg
        t11
  else
    0
theorem gsX_X7_manPart_1_q0 {p1 : Int32} {p2 : Int32} {v : Nat → Int32} {f : Nat → Nat → Int32} (h0 : gsX_X7_hasMan_1 p2 v f = 1) (h1 : (p1 < 0)) : gsX_X7_manPart_1 p1 p2 v f = 0 := by
  simp only [gsX_X7_manPart_1, h0, if_pos h1, ite11, ite01]
theorem gsX_X7_manPart_1_q1 {p1 : Int32} {p2 : Int32} {v : Nat → Int32} {f : Nat → Nat → Int32} (h0 : gsX_X7_hasMan_1 p2 v f = 1) (h1 : ¬ (p1 < 0)) (h2 : (3 ≤ p1)) : gsX_X7_manPart_1 p1 p2 v f = 0 := by
  simp only [gsX_X7_manPart_1, h0, if_neg h1, if_pos h2, ite11, ite01]
theorem gsX_X7_manPart_1_q2 {p1 : Int32} {p2 : Int32} {v : Nat → Int32} {f : Nat → Nat → Int32} {t6 : Int32} {t8 : Int32} {t11 : Int32} (h0 : gsX_X7_hasMan_1 p2 v f = 1) (h1 : ¬ (p1 < 0)) (h2 : ¬ (3 ≤ p1)) (h3 : t6 = p1 * 6) (h4 : t8 = t6 + p2) (h5 : t11 = f 9 (t8).toNatClampNeg) : gsX_X7_manPart_1 p1 p2 v f = t11 := by
  subst h3 h4 h5
  simp only [gsX_X7_manPart_1, h0, if_neg h1, if_neg h2, ite11, ite01]
theorem gsX_X7_manPart_1_q3 {p1 : Int32} {p2 : Int32} {v : Nat → Int32} {f : Nat → Nat → Int32} (h0 : gsX_X7_hasMan_1 p2 v f = 0) : gsX_X7_manPart_1 p1 p2 v f = 0 := by
  simp only [gsX_X7_manPart_1, h0, ite11, ite01]
def gsX_X1_muster_1_L7 (l1_3 : Int32) (k3 : Int32 → (Nat → Int32) → (Nat → Nat → Int32) → ((Nat → Int32) × (Nat → Nat → Int32))) : Nat → (Int32) → (Nat → Int32) → (Nat → Nat → Int32) → (Nat → Int32) × (Nat → Nat → Int32)
  | 0, _, _, _ => ((fun _ => 0), (fun _ _ => 0))
  | n7 + 1, l2_7, v7, f7 =>
    if 5 ≤ l2_7 then
      let t9 : Int32 := l1_3 + 1
      k3 t9 v7 f7
    else
      let t12 : Int32 := l2_7 * 6
      let t14 : Int32 := 12 + t12
      let t16 : Int32 := t14 + l1_3
      let r19 : Int32 := gsX_X7_coatPart_1 l2_7 l1_3 v7 f7
      let f21 : Nat → Nat → Int32 := upd2 f7 15 (upd (f7 15) t16.toNatClampNeg r19)
      let t22 : Int32 := l2_7 + 1
      gsX_X1_muster_1_L7 l1_3 k3 n7 t22 v7 f21
def gsX_X1_muster_1_L3 : Nat → (Int32) → (Nat → Int32) → (Nat → Nat → Int32) → (Nat → Int32) × (Nat → Nat → Int32)
  | 0, _, _, _ => ((fun _ => 0), (fun _ _ => 0))
  | n3 + 1, l1_3, v3, f3 =>
    if 6 ≤ l1_3 then
      let f5 : Nat → Nat → Int32 := upd2 f3 15 (upd (f3 15) (42 : Int32).toNatClampNeg 0)
      let f6 : Nat → Nat → Int32 := upd2 f5 15 (upd (f5 15) (43 : Int32).toNatClampNeg (v3 37))
      (v3, f6)
    else
      gsX_X1_muster_1_L7 l1_3 (fun z0 z1 z2 => gsX_X1_muster_1_L3 n3 z0 z1 z2) 4294967296 0 v3 f3
def gsX_X1_muster_1_L1 : Nat → (Int32) → (Nat → Int32) → (Nat → Nat → Int32) → (Nat → Int32) × (Nat → Nat → Int32)
  | 0, _, _, _ => ((fun _ => 0), (fun _ _ => 0))
  | n1 + 1, l1_1, v1, f1 =>
    if 6 ≤ l1_1 then
      gsX_X1_muster_1_L3 4294967296 0 v1 f1
    else
      let r24 : Int32 := gsX_X7_manPart_1 1 l1_1 v1 f1
      let f26 : Nat → Nat → Int32 := upd2 f1 15 (upd (f1 15) l1_1.toNatClampNeg r24)
      let t27 : Int32 := 6 + l1_1
      let f29 : Nat → Nat → Int32 := upd2 f26 15 (upd (f26 15) t27.toNatClampNeg (-1))
      let t30 : Int32 := l1_1 + 1
      gsX_X1_muster_1_L1 n1 t30 v1 f29
def gsX_X1_muster_1 (v : Nat → Int32) (f : Nat → Nat → Int32) : (Nat → Int32) × (Nat → Nat → Int32) :=
  gsX_X1_muster_1_L1 4294967296 0 v f
theorem gsX_X1_muster_1_q6 {v : Nat → Int32} {f : Nat → Nat → Int32}  : gsX_X1_muster_1 v f = gsX_X1_muster_1_L1 4294967296 0 v f := by
  simp only [gsX_X1_muster_1]
theorem gsX_X1_muster_1_q4 {n1 : Nat} {l1_1 : Int32} {v1 : Nat → Int32} {f1 : Nat → Nat → Int32} (h0 : (6 ≤ l1_1)) : gsX_X1_muster_1_L1 (n1 + 1) l1_1 v1 f1 = gsX_X1_muster_1_L3 4294967296 0 v1 f1 := by
  simp only [gsX_X1_muster_1_L1, if_pos h0]
theorem gsX_X1_muster_1_q5 {n1 : Nat} {l1_1 : Int32} {v1 : Nat → Int32} {f1 : Nat → Nat → Int32} {r24 : Int32} {f26 : Nat → Nat → Int32} {t27 : Int32} {f29 : Nat → Nat → Int32} {t30 : Int32} (h0 : ¬ (6 ≤ l1_1)) (h1 : r24 = gsX_X7_manPart_1 1 l1_1 v1 f1) (h2 : f26 = upd2 f1 15 (upd (f1 15) l1_1.toNatClampNeg r24)) (h3 : t27 = 6 + l1_1) (h4 : f29 = upd2 f26 15 (upd (f26 15) t27.toNatClampNeg (-1))) (h5 : t30 = l1_1 + 1) : gsX_X1_muster_1_L1 (n1 + 1) l1_1 v1 f1 = gsX_X1_muster_1_L1 n1 t30 v1 f29 := by
  subst h1 h2 h3 h4 h5
  simp only [gsX_X1_muster_1_L1, if_neg h0]
theorem gsX_X1_muster_1_q0 {n3 : Nat} {l1_3 : Int32} {v3 : Nat → Int32} {f3 : Nat → Nat → Int32} {f5 : Nat → Nat → Int32} {f6 : Nat → Nat → Int32} (h0 : (6 ≤ l1_3)) (h1 : f5 = upd2 f3 15 (upd (f3 15) (42 : Int32).toNatClampNeg 0)) (h2 : f6 = upd2 f5 15 (upd (f5 15) (43 : Int32).toNatClampNeg (v3 37))) : gsX_X1_muster_1_L3 (n3 + 1) l1_3 v3 f3 = (v3, f6) := by
  subst h1 h2
  simp only [gsX_X1_muster_1_L3, if_pos h0]
theorem gsX_X1_muster_1_q3 {n3 : Nat} {l1_3 : Int32} {v3 : Nat → Int32} {f3 : Nat → Nat → Int32} (h0 : ¬ (6 ≤ l1_3)) : gsX_X1_muster_1_L3 (n3 + 1) l1_3 v3 f3 = gsX_X1_muster_1_L7 l1_3 (fun z0 z1 z2 => gsX_X1_muster_1_L3 n3 z0 z1 z2) 4294967296 0 v3 f3 := by
  simp only [gsX_X1_muster_1_L3, if_neg h0]
theorem gsX_X1_muster_1_q1 {l1_3 : Int32} {n7 : Nat} {l2_7 : Int32} {v7 : Nat → Int32} {f7 : Nat → Nat → Int32} {t9 : Int32} {k3 : Int32 → (Nat → Int32) → (Nat → Nat → Int32) → ((Nat → Int32) × (Nat → Nat → Int32))} (h0 : (5 ≤ l2_7)) (h1 : t9 = l1_3 + 1) : gsX_X1_muster_1_L7 l1_3 k3 (n7 + 1) l2_7 v7 f7 = k3 t9 v7 f7 := by
  subst h1
  simp only [gsX_X1_muster_1_L7, if_pos h0]
theorem gsX_X1_muster_1_q2 {l1_3 : Int32} {n7 : Nat} {l2_7 : Int32} {v7 : Nat → Int32} {f7 : Nat → Nat → Int32} {t12 : Int32} {t14 : Int32} {t16 : Int32} {r19 : Int32} {f21 : Nat → Nat → Int32} {t22 : Int32} {k3 : Int32 → (Nat → Int32) → (Nat → Nat → Int32) → ((Nat → Int32) × (Nat → Nat → Int32))} (h0 : ¬ (5 ≤ l2_7)) (h1 : t12 = l2_7 * 6) (h2 : t14 = 12 + t12) (h3 : t16 = t14 + l1_3) (h4 : r19 = gsX_X7_coatPart_1 l2_7 l1_3 v7 f7) (h5 : f21 = upd2 f7 15 (upd (f7 15) t16.toNatClampNeg r19)) (h6 : t22 = l2_7 + 1) : gsX_X1_muster_1_L7 l1_3 k3 (n7 + 1) l2_7 v7 f7 = gsX_X1_muster_1_L7 l1_3 k3 n7 t22 v7 f21 := by
  subst h1 h2 h3 h4 h5 h6
  simp only [gsX_X1_muster_1_L7, if_neg h0]
def gsX_X1_saveTo_1 (p2 : Int32) (v : Nat → Int32) (f : Nat → Nat → Int32) : (Nat → Int32) × (Nat → Nat → Int32) :=
  if p2 < 0 then
    (v, f)
  else
    if 41 ≤ p2 then
      (v, f)
    else
      let t3 : Int32 := p2 * 44
      let f5 : Nat → Nat → Int32 := upd2 f 17 (va_cpy (f 15) (f 17) (0 : Int32).toNatClampNeg (t3).toNatClampNeg (44 : Int32).toNatClampNeg)
      (v, f5)
theorem gsX_X1_saveTo_1_q0 {p2 : Int32} {v : Nat → Int32} {f : Nat → Nat → Int32} (h0 : (p2 < 0)) : gsX_X1_saveTo_1 p2 v f = (v, f) := by
  simp only [gsX_X1_saveTo_1, if_pos h0]
theorem gsX_X1_saveTo_1_q1 {p2 : Int32} {v : Nat → Int32} {f : Nat → Nat → Int32} (h0 : ¬ (p2 < 0)) (h1 : (41 ≤ p2)) : gsX_X1_saveTo_1 p2 v f = (v, f) := by
  simp only [gsX_X1_saveTo_1, if_neg h0, if_pos h1]
theorem gsX_X1_saveTo_1_q2 {p2 : Int32} {v : Nat → Int32} {f : Nat → Nat → Int32} {t3 : Int32} {f5 : Nat → Nat → Int32} (h0 : ¬ (p2 < 0)) (h1 : ¬ (41 ≤ p2)) (h2 : t3 = p2 * 44) (h3 : f5 = upd2 f 17 (va_cpy (f 15) (f 17) (0 : Int32).toNatClampNeg (t3).toNatClampNeg (44 : Int32).toNatClampNeg)) : gsX_X1_saveTo_1 p2 v f = (v, f5) := by
  subst h2 h3
  simp only [gsX_X1_saveTo_1, if_neg h0, if_neg h1]
def gsX_X5_forgetActs_1 (v : Nat → Int32) (f : Nat → Nat → Int32) : (Nat → Int32) × (Nat → Nat → Int32) :=
  match gsX_X1_saveTo_1 0 (upd (upd (upd v 21 0) 22 0) 23 0) f with
  | (v2, f3) =>
    (v2, f3)
theorem gsX_X5_forgetActs_1_q0 {v : Nat → Int32} {f : Nat → Nat → Int32} {v2 : Nat → Int32} {f3 : Nat → Nat → Int32} (h0 : gsX_X1_saveTo_1 0 (upd (upd (upd v 21 0) 22 0) 23 0) f = (v2, f3)) : gsX_X5_forgetActs_1 v f = (v2, f3) := by
  simp only [gsX_X5_forgetActs_1, h0]
def gsX_X5_forgetAll_1 (v : Nat → Int32) (f : Nat → Nat → Int32) : (Nat → Int32) × (Nat → Nat → Int32) :=
  match gsX_X5_forgetActs_1 (upd v 20 0) f with
  | (v2, f3) =>
    (v2, f3)
theorem gsX_X5_forgetAll_1_q0 {v : Nat → Int32} {f : Nat → Nat → Int32} {v2 : Nat → Int32} {f3 : Nat → Nat → Int32} (h0 : gsX_X5_forgetActs_1 (upd v 20 0) f = (v2, f3)) : gsX_X5_forgetAll_1 v f = (v2, f3) := by
  simp only [gsX_X5_forgetAll_1, h0]
def gsX_X0_clear_1 (v : Nat → Int32) (f : Nat → Nat → Int32) : (Nat → Int32) × (Nat → Nat → Int32) :=
  ((upd v 38 0), f)
theorem gsX_X0_clear_1_q0 {v : Nat → Int32} {f : Nat → Nat → Int32}  : gsX_X0_clear_1 v f = ((upd v 38 0), f) := by
  simp only [gsX_X0_clear_1]
def gsX_J7_fill_53178_1_L1 (p1 : Int32) : Nat → (Int32) → (Nat → Int32) → (Nat → Nat → Int32) → (Nat → Int32) × (Nat → Nat → Int32)
  | 0, _, _, _ => ((fun _ => 0), (fun _ _ => 0))
  | n1 + 1, l2_1, v1, f1 =>
    if 21 ≤ l2_1 then
      (v1, f1)
    else
      let f3 : Nat → Nat → Int32 := upd2 f1 27 (upd (f1 27) l2_1.toNatClampNeg p1)
      let t4 : Int32 := l2_1 + 1
      gsX_J7_fill_53178_1_L1 p1 n1 t4 v1 f3
def gsX_J7_fill_53178_1 (p1 : Int32) (v : Nat → Int32) (f : Nat → Nat → Int32) : (Nat → Int32) × (Nat → Nat → Int32) :=
  gsX_J7_fill_53178_1_L1 p1 4294967296 0 v f
theorem gsX_J7_fill_53178_1_q2 {p1 : Int32} {v : Nat → Int32} {f : Nat → Nat → Int32}  : gsX_J7_fill_53178_1 p1 v f = gsX_J7_fill_53178_1_L1 p1 4294967296 0 v f := by
  simp only [gsX_J7_fill_53178_1]
theorem gsX_J7_fill_53178_1_q0 {p1 : Int32} {n1 : Nat} {l2_1 : Int32} {v1 : Nat → Int32} {f1 : Nat → Nat → Int32} (h0 : (21 ≤ l2_1)) : gsX_J7_fill_53178_1_L1 p1 (n1 + 1) l2_1 v1 f1 = (v1, f1) := by
  simp only [gsX_J7_fill_53178_1_L1, if_pos h0]
theorem gsX_J7_fill_53178_1_q1 {p1 : Int32} {n1 : Nat} {l2_1 : Int32} {v1 : Nat → Int32} {f1 : Nat → Nat → Int32} {f3 : Nat → Nat → Int32} {t4 : Int32} (h0 : ¬ (21 ≤ l2_1)) (h1 : f3 = upd2 f1 27 (upd (f1 27) l2_1.toNatClampNeg p1)) (h2 : t4 = l2_1 + 1) : gsX_J7_fill_53178_1_L1 p1 (n1 + 1) l2_1 v1 f1 = gsX_J7_fill_53178_1_L1 p1 n1 t4 v1 f3 := by
  subst h1 h2
  simp only [gsX_J7_fill_53178_1_L1, if_neg h0]
def gsX_X8_clear_1 (v : Nat → Int32) (f : Nat → Nat → Int32) : (Nat → Int32) × (Nat → Nat → Int32) :=
  match gsX_J7_fill_53178_1 (-1) (upd v 41 0) f with
  | (v2, f3) =>
    (v2, f3)
theorem gsX_X8_clear_1_q0 {v : Nat → Int32} {f : Nat → Nat → Int32} {v2 : Nat → Int32} {f3 : Nat → Nat → Int32} (h0 : gsX_J7_fill_53178_1 (-1) (upd v 41 0) f = (v2, f3)) : gsX_X8_clear_1 v f = (v2, f3) := by
  simp only [gsX_X8_clear_1, h0]
def gsX_X10_regiment_1 (v : Nat → Int32) (f : Nat → Nat → Int32) : Int32 × (Nat → Int32) × (Nat → Nat → Int32) :=
  match gsX_X6_read_1 v f with
  | (r1, v3, f4) =>
    if r1 = 1 then
      match gsX_X7_copy_1 (upd v3 1 0) f4 with
      | (v7, f8) =>
        match gsX_X1_muster_1 v7 f8 with
        | (v10, f11) =>
          match gsX_X5_forgetAll_1 v10 f11 with
          | (v13, f14) =>
            match gsX_X0_clear_1 v13 f14 with
            | (v16, f17) =>
              match gsX_X8_clear_1 v16 f17 with
              | (v19, f20) =>
                ((v7 31), v19, f20)
    else
      ((-1), (upd v3 1 0), f4)
theorem gsX_X10_regiment_1_q0 {v : Nat → Int32} {f : Nat → Nat → Int32} {v3 : Nat → Int32} {f4 : Nat → Nat → Int32} {v7 : Nat → Int32} {f8 : Nat → Nat → Int32} {v10 : Nat → Int32} {f11 : Nat → Nat → Int32} {v13 : Nat → Int32} {f14 : Nat → Nat → Int32} {v16 : Nat → Int32} {f17 : Nat → Nat → Int32} {v19 : Nat → Int32} {f20 : Nat → Nat → Int32} (h0 : gsX_X6_read_1 v f = (1, v3, f4)) (h2 : gsX_X7_copy_1 (upd v3 1 0) f4 = (v7, f8)) (h3 : gsX_X1_muster_1 v7 f8 = (v10, f11)) (h4 : gsX_X5_forgetAll_1 v10 f11 = (v13, f14)) (h5 : gsX_X0_clear_1 v13 f14 = (v16, f17)) (h6 : gsX_X8_clear_1 v16 f17 = (v19, f20)) : gsX_X10_regiment_1 v f = ((v7 31), v19, f20) := by
  simp only [gsX_X10_regiment_1, h0, h2, h3, h4, h5, h6, ite11, ite01]
theorem gsX_X10_regiment_1_q1 {v : Nat → Int32} {f : Nat → Nat → Int32} {v3 : Nat → Int32} {f4 : Nat → Nat → Int32} (h0 : gsX_X6_read_1 v f = (0, v3, f4)) : gsX_X10_regiment_1 v f = ((-1), (upd v3 1 0), f4) := by
  simp only [gsX_X10_regiment_1, h0, ite11, ite01]
def gsY_X11_four_1_L1 (p1 : Int32) : Nat → (Int32) → (Nat → Int32) → (Nat → Nat → Int32) → (Int64) → (Nat → Int64) → (Nat → Int32) × (Nat → Nat → Int32) × (Int64) × (Nat → Int64)
  | 0, _, _, _, _, _ => ((fun _ => 0), (fun _ _ => 0), 0, (fun _ => 0))
  | n1 + 1, l2_1, v1, f1, w1, g1 =>
    if l2_1 < 0 then
      (v1, f1, w1, g1)
    else
      let t3 : Int32 := p1 >>> (l2_1 &&& 31)
      let t4 : Int32 := t3 &&& 255
      let f5 : Nat → Nat → Int32 := upd2 f1 0 (upd (f1 0) (v1 0).toNatClampNeg t4)
      let t6 : Int32 := (v1 0) + 1
      let t8 : Int32 := l2_1 + (-8)
      gsY_X11_four_1_L1 p1 n1 t8 (upd v1 0 t6) f5 w1 g1
def gsY_X11_four_1 (p1 : Int32) (v : Nat → Int32) (f : Nat → Nat → Int32) (w : Int64) (g : Nat → Int64) : (Nat → Int32) × (Nat → Nat → Int32) × (Int64) × (Nat → Int64) :=
  gsY_X11_four_1_L1 p1 4294967296 24 v f w g
theorem gsY_X11_four_1_q2 {p1 : Int32} {v : Nat → Int32} {f : Nat → Nat → Int32} {w : Int64} {g : Nat → Int64}  : gsY_X11_four_1 p1 v f w g = gsY_X11_four_1_L1 p1 4294967296 24 v f w g := by
  simp only [gsY_X11_four_1]
theorem gsY_X11_four_1_q0 {p1 : Int32} {n1 : Nat} {l2_1 : Int32} {v1 : Nat → Int32} {f1 : Nat → Nat → Int32} {w1 : Int64} {g1 : Nat → Int64} (h0 : (l2_1 < 0)) : gsY_X11_four_1_L1 p1 (n1 + 1) l2_1 v1 f1 w1 g1 = (v1, f1, w1, g1) := by
  simp only [gsY_X11_four_1_L1, if_pos h0]
theorem gsY_X11_four_1_q1 {p1 : Int32} {n1 : Nat} {l2_1 : Int32} {v1 : Nat → Int32} {f1 : Nat → Nat → Int32} {w1 : Int64} {g1 : Nat → Int64} {t3 : Int32} {t4 : Int32} {f5 : Nat → Nat → Int32} {t6 : Int32} {t8 : Int32} (h0 : ¬ (l2_1 < 0)) (h1 : t3 = p1 >>> (l2_1 &&& 31)) (h2 : t4 = t3 &&& 255) (h3 : f5 = upd2 f1 0 (upd (f1 0) (v1 0).toNatClampNeg t4)) (h4 : t6 = (v1 0) + 1) (h5 : t8 = l2_1 + (-8)) : gsY_X11_four_1_L1 p1 (n1 + 1) l2_1 v1 f1 w1 g1 = gsY_X11_four_1_L1 p1 n1 t8 (upd v1 0 t6) f5 w1 g1 := by
  subst h1 h2 h3 h4 h5
  simp only [gsY_X11_four_1_L1, if_neg h0]
