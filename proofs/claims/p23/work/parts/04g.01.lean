def gsX_X6_expression_18 (NF : Nat) (v : Nat → Int32) (f : Nat → Nat → Int32) : Int32 × (Nat → Int32) × (Nat → Nat → Int32) :=
  match gsX_X6_unit_3 NF v f with
  | (r1, v3, f4) =>
    if r1 = 1 then
      (1, v3, f4)
    else
      (0, v3, f4)
theorem gsX_X6_expression_18_q0 {NF : Nat} {v : Nat → Int32} {f : Nat → Nat → Int32} {v3 : Nat → Int32} {f4 : Nat → Nat → Int32} (h0 : gsX_X6_unit_3 NF v f = (1, v3, f4)) : gsX_X6_expression_18 NF v f = (1, v3, f4) := by
  simp only [gsX_X6_expression_18, h0, ite11, ite01, if_true, if_false]
theorem gsX_X6_expression_18_q1 {NF : Nat} {v : Nat → Int32} {f : Nat → Nat → Int32} {v3 : Nat → Int32} {f4 : Nat → Nat → Int32} (h0 : gsX_X6_unit_3 NF v f = (0, v3, f4)) : gsX_X6_expression_18 NF v f = (0, v3, f4) := by
  simp only [gsX_X6_expression_18, h0, ite11, ite01, if_true, if_false]
def gsX_X6_expression_17_L6 (NF : Nat) : Nat → (Int32) → (Nat → Int32) → (Nat → Nat → Int32) → Int32 × (Nat → Int32) × (Nat → Nat → Int32)
  | 0, _, _, _ => (0, (fun _ => 0), (fun _ _ => 0))
  | n6 + 1, l4_6, v6, f6 =>
    if 1600 ≤ l4_6 then
      (1, v6, f6)
    else
      if gsX_X6_joins_1 NF 4 (v6 2) v6 f6 = 1 then
        match gsX_X9_advance_1 NF v6 f6 with
        | (v12, f13) =>
          match gsX_X6_expression_18 NF v12 f13 with
          | (r14, v16, f17) =>
            if r14 = 1 then
              match gsX_X4_add_1 NF (v6 2) 0 v16 f17 with
              | (v20, f21) =>
                let t22 : Int32 := l4_6 + 1
                gsX_X6_expression_17_L6 NF n6 t22 v20 f21
            else
              (0, v16, f17)
      else
        (1, v6, f6)
def gsX_X6_expression_17 (NF : Nat) (v : Nat → Int32) (f : Nat → Nat → Int32) : Int32 × (Nat → Int32) × (Nat → Nat → Int32) :=
  match gsX_X6_expression_18 NF v f with
  | (r1, v3, f4) =>
    if r1 = 1 then
      gsX_X6_expression_17_L6 NF (4294967296 + NF) 0 v3 f4
    else
      (0, v3, f4)
theorem gsX_X6_expression_17_q4 {NF : Nat} {v : Nat → Int32} {f : Nat → Nat → Int32} {v3 : Nat → Int32} {f4 : Nat → Nat → Int32} (h0 : gsX_X6_expression_18 NF v f = (1, v3, f4)) : gsX_X6_expression_17 NF v f = gsX_X6_expression_17_L6 NF (4294967296 + NF) 0 v3 f4 := by
  simp only [gsX_X6_expression_17, h0, ite11, ite01, if_true, if_false]
theorem gsX_X6_expression_17_q5 {NF : Nat} {v : Nat → Int32} {f : Nat → Nat → Int32} {v3 : Nat → Int32} {f4 : Nat → Nat → Int32} (h0 : gsX_X6_expression_18 NF v f = (0, v3, f4)) : gsX_X6_expression_17 NF v f = (0, v3, f4) := by
  simp only [gsX_X6_expression_17, h0, ite11, ite01, if_true, if_false]
theorem gsX_X6_expression_17_q0 {NF : Nat} {n6 : Nat} {l4_6 : Int32} {v6 : Nat → Int32} {f6 : Nat → Nat → Int32} (h0 : (1600 ≤ l4_6)) : gsX_X6_expression_17_L6 NF (n6 + 1) l4_6 v6 f6 = (1, v6, f6) := by
  simp only [gsX_X6_expression_17_L6, if_pos h0]
theorem gsX_X6_expression_17_q1 {NF : Nat} {n6 : Nat} {l4_6 : Int32} {v6 : Nat → Int32} {f6 : Nat → Nat → Int32} {v12 : Nat → Int32} {f13 : Nat → Nat → Int32} {v16 : Nat → Int32} {f17 : Nat → Nat → Int32} {v20 : Nat → Int32} {f21 : Nat → Nat → Int32} {t22 : Int32} (h0 : ¬ (1600 ≤ l4_6)) (h1 : gsX_X6_joins_1 NF 4 (v6 2) v6 f6 = 1) (h2 : gsX_X9_advance_1 NF v6 f6 = (v12, f13)) (h3 : gsX_X6_expression_18 NF v12 f13 = (1, v16, f17)) (h5 : gsX_X4_add_1 NF (v6 2) 0 v16 f17 = (v20, f21)) (h6 : t22 = l4_6 + 1) : gsX_X6_expression_17_L6 NF (n6 + 1) l4_6 v6 f6 = gsX_X6_expression_17_L6 NF n6 t22 v20 f21 := by
  subst h6
  simp only [gsX_X6_expression_17_L6, if_neg h0, h1, h2, h3, h5, ite11, ite01, if_true, if_false]
theorem gsX_X6_expression_17_q2 {NF : Nat} {n6 : Nat} {l4_6 : Int32} {v6 : Nat → Int32} {f6 : Nat → Nat → Int32} {v12 : Nat → Int32} {f13 : Nat → Nat → Int32} {v16 : Nat → Int32} {f17 : Nat → Nat → Int32} (h0 : ¬ (1600 ≤ l4_6)) (h1 : gsX_X6_joins_1 NF 4 (v6 2) v6 f6 = 1) (h2 : gsX_X9_advance_1 NF v6 f6 = (v12, f13)) (h3 : gsX_X6_expression_18 NF v12 f13 = (0, v16, f17)) : gsX_X6_expression_17_L6 NF (n6 + 1) l4_6 v6 f6 = (0, v16, f17) := by
  simp only [gsX_X6_expression_17_L6, if_neg h0, h1, h2, h3, ite11, ite01, if_true, if_false]
theorem gsX_X6_expression_17_q3 {NF : Nat} {n6 : Nat} {l4_6 : Int32} {v6 : Nat → Int32} {f6 : Nat → Nat → Int32} (h0 : ¬ (1600 ≤ l4_6)) (h1 : gsX_X6_joins_1 NF 4 (v6 2) v6 f6 = 0) : gsX_X6_expression_17_L6 NF (n6 + 1) l4_6 v6 f6 = (1, v6, f6) := by
  simp only [gsX_X6_expression_17_L6, if_neg h0, h1, ite11, ite01, if_true, if_false]
def gsX_X6_expression_16_L6 (NF : Nat) : Nat → (Int32) → (Nat → Int32) → (Nat → Nat → Int32) → Int32 × (Nat → Int32) × (Nat → Nat → Int32)
  | 0, _, _, _ => (0, (fun _ => 0), (fun _ _ => 0))
  | n6 + 1, l4_6, v6, f6 =>
    if 1600 ≤ l4_6 then
      (1, v6, f6)
    else
      if gsX_X6_joins_1 NF 3 (v6 2) v6 f6 = 1 then
        match gsX_X9_advance_1 NF v6 f6 with
        | (v12, f13) =>
          match gsX_X6_expression_17 NF v12 f13 with
          | (r14, v16, f17) =>
            if r14 = 1 then
              match gsX_X4_add_1 NF (v6 2) 0 v16 f17 with
              | (v20, f21) =>
                let t22 : Int32 := l4_6 + 1
                gsX_X6_expression_16_L6 NF n6 t22 v20 f21
            else
              (0, v16, f17)
      else
        (1, v6, f6)
def gsX_X6_expression_16 (NF : Nat) (v : Nat → Int32) (f : Nat → Nat → Int32) : Int32 × (Nat → Int32) × (Nat → Nat → Int32) :=
  match gsX_X6_expression_17 NF v f with
  | (r1, v3, f4) =>
    if r1 = 1 then
      gsX_X6_expression_16_L6 NF (4294967296 + NF) 0 v3 f4
    else
      (0, v3, f4)
theorem gsX_X6_expression_16_q4 {NF : Nat} {v : Nat → Int32} {f : Nat → Nat → Int32} {v3 : Nat → Int32} {f4 : Nat → Nat → Int32} (h0 : gsX_X6_expression_17 NF v f = (1, v3, f4)) : gsX_X6_expression_16 NF v f = gsX_X6_expression_16_L6 NF (4294967296 + NF) 0 v3 f4 := by
  simp only [gsX_X6_expression_16, h0, ite11, ite01, if_true, if_false]
theorem gsX_X6_expression_16_q5 {NF : Nat} {v : Nat → Int32} {f : Nat → Nat → Int32} {v3 : Nat → Int32} {f4 : Nat → Nat → Int32} (h0 : gsX_X6_expression_17 NF v f = (0, v3, f4)) : gsX_X6_expression_16 NF v f = (0, v3, f4) := by
  simp only [gsX_X6_expression_16, h0, ite11, ite01, if_true, if_false]
theorem gsX_X6_expression_16_q0 {NF : Nat} {n6 : Nat} {l4_6 : Int32} {v6 : Nat → Int32} {f6 : Nat → Nat → Int32} (h0 : (1600 ≤ l4_6)) : gsX_X6_expression_16_L6 NF (n6 + 1) l4_6 v6 f6 = (1, v6, f6) := by
  simp only [gsX_X6_expression_16_L6, if_pos h0]
theorem gsX_X6_expression_16_q1 {NF : Nat} {n6 : Nat} {l4_6 : Int32} {v6 : Nat → Int32} {f6 : Nat → Nat → Int32} {v12 : Nat → Int32} {f13 : Nat → Nat → Int32} {v16 : Nat → Int32} {f17 : Nat → Nat → Int32} {v20 : Nat → Int32} {f21 : Nat → Nat → Int32} {t22 : Int32} (h0 : ¬ (1600 ≤ l4_6)) (h1 : gsX_X6_joins_1 NF 3 (v6 2) v6 f6 = 1) (h2 : gsX_X9_advance_1 NF v6 f6 = (v12, f13)) (h3 : gsX_X6_expression_17 NF v12 f13 = (1, v16, f17)) (h5 : gsX_X4_add_1 NF (v6 2) 0 v16 f17 = (v20, f21)) (h6 : t22 = l4_6 + 1) : gsX_X6_expression_16_L6 NF (n6 + 1) l4_6 v6 f6 = gsX_X6_expression_16_L6 NF n6 t22 v20 f21 := by
  subst h6
  simp only [gsX_X6_expression_16_L6, if_neg h0, h1, h2, h3, h5, ite11, ite01, if_true, if_false]
theorem gsX_X6_expression_16_q2 {NF : Nat} {n6 : Nat} {l4_6 : Int32} {v6 : Nat → Int32} {f6 : Nat → Nat → Int32} {v12 : Nat → Int32} {f13 : Nat → Nat → Int32} {v16 : Nat → Int32} {f17 : Nat → Nat → Int32} (h0 : ¬ (1600 ≤ l4_6)) (h1 : gsX_X6_joins_1 NF 3 (v6 2) v6 f6 = 1) (h2 : gsX_X9_advance_1 NF v6 f6 = (v12, f13)) (h3 : gsX_X6_expression_17 NF v12 f13 = (0, v16, f17)) : gsX_X6_expression_16_L6 NF (n6 + 1) l4_6 v6 f6 = (0, v16, f17) := by
  simp only [gsX_X6_expression_16_L6, if_neg h0, h1, h2, h3, ite11, ite01, if_true, if_false]
theorem gsX_X6_expression_16_q3 {NF : Nat} {n6 : Nat} {l4_6 : Int32} {v6 : Nat → Int32} {f6 : Nat → Nat → Int32} (h0 : ¬ (1600 ≤ l4_6)) (h1 : gsX_X6_joins_1 NF 3 (v6 2) v6 f6 = 0) : gsX_X6_expression_16_L6 NF (n6 + 1) l4_6 v6 f6 = (1, v6, f6) := by
  simp only [gsX_X6_expression_16_L6, if_neg h0, h1, ite11, ite01, if_true, if_false]
def gsX_X6_negation_6 (NF : Nat) (v : Nat → Int32) (f : Nat → Nat → Int32) : Int32 × (Nat → Int32) × (Nat → Nat → Int32) :=
  match gsX_X9_advance_1 NF v f with
  | (v2, f3) =>
    match stk NF (gsX_X6_expression_21 NF v2 f3) with
    | (r4, v6, f7) =>
      if r4 = 1 then
        match gsX_X4_add_1 NF 115 0 v6 f7 with
        | (v10, f11) =>
          (1, v10, f11)
      else
        (0, v6, f7)
theorem gsX_X6_negation_6_q0 {NF : Nat} {v : Nat → Int32} {f : Nat → Nat → Int32} {v2 : Nat → Int32} {f3 : Nat → Nat → Int32} {v6 : Nat → Int32} {f7 : Nat → Nat → Int32} {v10 : Nat → Int32} {f11 : Nat → Nat → Int32} (h0 : gsX_X9_advance_1 NF v f = (v2, f3)) (h1 : gsX_X6_expression_21 NF v2 f3 = (1, v6, f7)) (h3 : gsX_X4_add_1 NF 115 0 v6 f7 = (v10, f11)) : gsX_X6_negation_6 NF v f = (1, v10, f11) := by
  simp only [gsX_X6_negation_6, stk_eq, h0, h1, h3, ite11, ite01, if_true, if_false]
theorem gsX_X6_negation_6_q1 {NF : Nat} {v : Nat → Int32} {f : Nat → Nat → Int32} {v2 : Nat → Int32} {f3 : Nat → Nat → Int32} {v6 : Nat → Int32} {f7 : Nat → Nat → Int32} (h0 : gsX_X9_advance_1 NF v f = (v2, f3)) (h1 : gsX_X6_expression_21 NF v2 f3 = (0, v6, f7)) : gsX_X6_negation_6 NF v f = (0, v6, f7) := by
  simp only [gsX_X6_negation_6, stk_eq, h0, h1, ite11, ite01, if_true, if_false]
def gsX_X6_expression_15_L7 (NF : Nat) : Nat → (Int32) → (Nat → Int32) → (Nat → Nat → Int32) → Int32 × (Nat → Int32) × (Nat → Nat → Int32)
  | 0, _, _, _ => (0, (fun _ => 0), (fun _ _ => 0))
  | n7 + 1, l4_7, v7, f7 =>
    if 1 ≤ l4_7 then
      (1, v7, f7)
    else
      if gsX_X6_joins_1 NF 2 (v7 2) v7 f7 = 1 then
        match gsX_X9_advance_1 NF v7 f7 with
        | (v13, f14) =>
          match gsX_X6_expression_16 NF v13 f14 with
          | (r15, v17, f18) =>
            if r15 = 1 then
              match gsX_X4_add_1 NF (v7 2) 0 v17 f18 with
              | (v21, f22) =>
                let t23 : Int32 := l4_7 + 1
                gsX_X6_expression_15_L7 NF n7 t23 v21 f22
            else
              (0, v17, f18)
      else
        (1, v7, f7)
def gsX_X6_expression_15 (NF : Nat) (v : Nat → Int32) (f : Nat → Nat → Int32) : Int32 × (Nat → Int32) × (Nat → Nat → Int32) :=
  if (v 2) = 115 then
    match gsX_X6_negation_6 NF v f with
    | (r26, v28, f29) =>
      if r26 = 1 then
        (1, v28, f29)
      else
        (0, v28, f29)
  else
    match gsX_X6_expression_16 NF v f with
    | (r2, v4, f5) =>
      if r2 = 1 then
        gsX_X6_expression_15_L7 NF (4294967296 + NF) 0 v4 f5
      else
        (0, v4, f5)
theorem gsX_X6_expression_15_q4 {NF : Nat} {v : Nat → Int32} {f : Nat → Nat → Int32} {v4 : Nat → Int32} {f5 : Nat → Nat → Int32} (h0 : ¬ ((v 2) = 115)) (h1 : gsX_X6_expression_16 NF v f = (1, v4, f5)) : gsX_X6_expression_15 NF v f = gsX_X6_expression_15_L7 NF (4294967296 + NF) 0 v4 f5 := by
  simp only [gsX_X6_expression_15, if_neg h0, h1, ite11, ite01, if_true, if_false]
theorem gsX_X6_expression_15_q5 {NF : Nat} {v : Nat → Int32} {f : Nat → Nat → Int32} {v4 : Nat → Int32} {f5 : Nat → Nat → Int32} (h0 : ¬ ((v 2) = 115)) (h1 : gsX_X6_expression_16 NF v f = (0, v4, f5)) : gsX_X6_expression_15 NF v f = (0, v4, f5) := by
  simp only [gsX_X6_expression_15, if_neg h0, h1, ite11, ite01, if_true, if_false]
theorem gsX_X6_expression_15_q6 {NF : Nat} {v : Nat → Int32} {f : Nat → Nat → Int32} {v28 : Nat → Int32} {f29 : Nat → Nat → Int32} (h0 : ((v 2) = 115)) (h1 : gsX_X6_negation_6 NF v f = (1, v28, f29)) : gsX_X6_expression_15 NF v f = (1, v28, f29) := by
  simp only [gsX_X6_expression_15, if_pos h0, h1, ite11, ite01, if_true, if_false]
theorem gsX_X6_expression_15_q7 {NF : Nat} {v : Nat → Int32} {f : Nat → Nat → Int32} {v28 : Nat → Int32} {f29 : Nat → Nat → Int32} (h0 : ((v 2) = 115)) (h1 : gsX_X6_negation_6 NF v f = (0, v28, f29)) : gsX_X6_expression_15 NF v f = (0, v28, f29) := by
  simp only [gsX_X6_expression_15, if_pos h0, h1, ite11, ite01, if_true, if_false]
theorem gsX_X6_expression_15_q0 {NF : Nat} {n7 : Nat} {l4_7 : Int32} {v7 : Nat → Int32} {f7 : Nat → Nat → Int32} (h0 : (1 ≤ l4_7)) : gsX_X6_expression_15_L7 NF (n7 + 1) l4_7 v7 f7 = (1, v7, f7) := by
  simp only [gsX_X6_expression_15_L7, if_pos h0]
theorem gsX_X6_expression_15_q1 {NF : Nat} {n7 : Nat} {l4_7 : Int32} {v7 : Nat → Int32} {f7 : Nat → Nat → Int32} {v13 : Nat → Int32} {f14 : Nat → Nat → Int32} {v17 : Nat → Int32} {f18 : Nat → Nat → Int32} {v21 : Nat → Int32} {f22 : Nat → Nat → Int32} {t23 : Int32} (h0 : ¬ (1 ≤ l4_7)) (h1 : gsX_X6_joins_1 NF 2 (v7 2) v7 f7 = 1) (h2 : gsX_X9_advance_1 NF v7 f7 = (v13, f14)) (h3 : gsX_X6_expression_16 NF v13 f14 = (1, v17, f18)) (h5 : gsX_X4_add_1 NF (v7 2) 0 v17 f18 = (v21, f22)) (h6 : t23 = l4_7 + 1) : gsX_X6_expression_15_L7 NF (n7 + 1) l4_7 v7 f7 = gsX_X6_expression_15_L7 NF n7 t23 v21 f22 := by
  subst h6
  simp only [gsX_X6_expression_15_L7, if_neg h0, h1, h2, h3, h5, ite11, ite01, if_true, if_false]
theorem gsX_X6_expression_15_q2 {NF : Nat} {n7 : Nat} {l4_7 : Int32} {v7 : Nat → Int32} {f7 : Nat → Nat → Int32} {v13 : Nat → Int32} {f14 : Nat → Nat → Int32} {v17 : Nat → Int32} {f18 : Nat → Nat → Int32} (h0 : ¬ (1 ≤ l4_7)) (h1 : gsX_X6_joins_1 NF 2 (v7 2) v7 f7 = 1) (h2 : gsX_X9_advance_1 NF v7 f7 = (v13, f14)) (h3 : gsX_X6_expression_16 NF v13 f14 = (0, v17, f18)) : gsX_X6_expression_15_L7 NF (n7 + 1) l4_7 v7 f7 = (0, v17, f18) := by
  simp only [gsX_X6_expression_15_L7, if_neg h0, h1, h2, h3, ite11, ite01, if_true, if_false]
theorem gsX_X6_expression_15_q3 {NF : Nat} {n7 : Nat} {l4_7 : Int32} {v7 : Nat → Int32} {f7 : Nat → Nat → Int32} (h0 : ¬ (1 ≤ l4_7)) (h1 : gsX_X6_joins_1 NF 2 (v7 2) v7 f7 = 0) : gsX_X6_expression_15_L7 NF (n7 + 1) l4_7 v7 f7 = (1, v7, f7) := by
  simp only [gsX_X6_expression_15_L7, if_neg h0, h1, ite11, ite01, if_true, if_false]
def gsX_X6_expression_14_L6 (NF : Nat) : Nat → (Int32) → (Nat → Int32) → (Nat → Nat → Int32) → Int32 × (Nat → Int32) × (Nat → Nat → Int32)
  | 0, _, _, _ => (0, (fun _ => 0), (fun _ _ => 0))
  | n6 + 1, l4_6, v6, f6 =>
    if 1600 ≤ l4_6 then
      (1, v6, f6)
    else
      if gsX_X6_joins_1 NF 1 (v6 2) v6 f6 = 1 then
        match gsX_X9_advance_1 NF v6 f6 with
        | (v12, f13) =>
          match gsX_X6_expression_15 NF v12 f13 with
          | (r14, v16, f17) =>
            if r14 = 1 then
              match gsX_X4_add_1 NF (v6 2) 0 v16 f17 with
              | (v20, f21) =>
                let t22 : Int32 := l4_6 + 1
                gsX_X6_expression_14_L6 NF n6 t22 v20 f21
            else
              (0, v16, f17)
      else
        (1, v6, f6)
def gsX_X6_expression_14 (NF : Nat) (v : Nat → Int32) (f : Nat → Nat → Int32) : Int32 × (Nat → Int32) × (Nat → Nat → Int32) :=
  match gsX_X6_expression_15 NF v f with
  | (r1, v3, f4) =>
    if r1 = 1 then
      gsX_X6_expression_14_L6 NF (4294967296 + NF) 0 v3 f4
    else
      (0, v3, f4)
theorem gsX_X6_expression_14_q4 {NF : Nat} {v : Nat → Int32} {f : Nat → Nat → Int32} {v3 : Nat → Int32} {f4 : Nat → Nat → Int32} (h0 : gsX_X6_expression_15 NF v f = (1, v3, f4)) : gsX_X6_expression_14 NF v f = gsX_X6_expression_14_L6 NF (4294967296 + NF) 0 v3 f4 := by
  simp only [gsX_X6_expression_14, h0, ite11, ite01, if_true, if_false]
theorem gsX_X6_expression_14_q5 {NF : Nat} {v : Nat → Int32} {f : Nat → Nat → Int32} {v3 : Nat → Int32} {f4 : Nat → Nat → Int32} (h0 : gsX_X6_expression_15 NF v f = (0, v3, f4)) : gsX_X6_expression_14 NF v f = (0, v3, f4) := by
  simp only [gsX_X6_expression_14, h0, ite11, ite01, if_true, if_false]
theorem gsX_X6_expression_14_q0 {NF : Nat} {n6 : Nat} {l4_6 : Int32} {v6 : Nat → Int32} {f6 : Nat → Nat → Int32} (h0 : (1600 ≤ l4_6)) : gsX_X6_expression_14_L6 NF (n6 + 1) l4_6 v6 f6 = (1, v6, f6) := by
  simp only [gsX_X6_expression_14_L6, if_pos h0]
theorem gsX_X6_expression_14_q1 {NF : Nat} {n6 : Nat} {l4_6 : Int32} {v6 : Nat → Int32} {f6 : Nat → Nat → Int32} {v12 : Nat → Int32} {f13 : Nat → Nat → Int32} {v16 : Nat → Int32} {f17 : Nat → Nat → Int32} {v20 : Nat → Int32} {f21 : Nat → Nat → Int32} {t22 : Int32} (h0 : ¬ (1600 ≤ l4_6)) (h1 : gsX_X6_joins_1 NF 1 (v6 2) v6 f6 = 1) (h2 : gsX_X9_advance_1 NF v6 f6 = (v12, f13)) (h3 : gsX_X6_expression_15 NF v12 f13 = (1, v16, f17)) (h5 : gsX_X4_add_1 NF (v6 2) 0 v16 f17 = (v20, f21)) (h6 : t22 = l4_6 + 1) : gsX_X6_expression_14_L6 NF (n6 + 1) l4_6 v6 f6 = gsX_X6_expression_14_L6 NF n6 t22 v20 f21 := by
  subst h6
  simp only [gsX_X6_expression_14_L6, if_neg h0, h1, h2, h3, h5, ite11, ite01, if_true, if_false]
theorem gsX_X6_expression_14_q2 {NF : Nat} {n6 : Nat} {l4_6 : Int32} {v6 : Nat → Int32} {f6 : Nat → Nat → Int32} {v12 : Nat → Int32} {f13 : Nat → Nat → Int32} {v16 : Nat → Int32} {f17 : Nat → Nat → Int32} (h0 : ¬ (1600 ≤ l4_6)) (h1 : gsX_X6_joins_1 NF 1 (v6 2) v6 f6 = 1) (h2 : gsX_X9_advance_1 NF v6 f6 = (v12, f13)) (h3 : gsX_X6_expression_15 NF v12 f13 = (0, v16, f17)) : gsX_X6_expression_14_L6 NF (n6 + 1) l4_6 v6 f6 = (0, v16, f17) := by
  simp only [gsX_X6_expression_14_L6, if_neg h0, h1, h2, h3, ite11, ite01, if_true, if_false]
theorem gsX_X6_expression_14_q3 {NF : Nat} {n6 : Nat} {l4_6 : Int32} {v6 : Nat → Int32} {f6 : Nat → Nat → Int32} (h0 : ¬ (1600 ≤ l4_6)) (h1 : gsX_X6_joins_1 NF 1 (v6 2) v6 f6 = 0) : gsX_X6_expression_14_L6 NF (n6 + 1) l4_6 v6 f6 = (1, v6, f6) := by
  simp only [gsX_X6_expression_14_L6, if_neg h0, h1, ite11, ite01, if_true, if_false]
def gsX_X6_expression_13_L6 (NF : Nat) : Nat → (Int32) → (Nat → Int32) → (Nat → Nat → Int32) → Int32 × (Nat → Int32) × (Nat → Nat → Int32)
  | 0, _, _, _ => (0, (fun _ => 0), (fun _ _ => 0))
  | n6 + 1, l4_6, v6, f6 =>
    if 1600 ≤ l4_6 then
      (1, v6, f6)
    else
      if gsX_X6_joins_1 NF 0 (v6 2) v6 f6 = 1 then
        match gsX_X9_advance_1 NF v6 f6 with
        | (v12, f13) =>
          match gsX_X6_expression_14 NF v12 f13 with
          | (r14, v16, f17) =>
            if r14 = 1 then
              match gsX_X4_add_1 NF (v6 2) 0 v16 f17 with
              | (v20, f21) =>
                let t22 : Int32 := l4_6 + 1
                gsX_X6_expression_13_L6 NF n6 t22 v20 f21
            else
              (0, v16, f17)
      else
        (1, v6, f6)
def gsX_X6_expression_13 (NF : Nat) (v : Nat → Int32) (f : Nat → Nat → Int32) : Int32 × (Nat → Int32) × (Nat → Nat → Int32) :=
  match gsX_X6_expression_14 NF v f with
  | (r1, v3, f4) =>
    if r1 = 1 then
      gsX_X6_expression_13_L6 NF (4294967296 + NF) 0 v3 f4
    else
      (0, v3, f4)
theorem gsX_X6_expression_13_q4 {NF : Nat} {v : Nat → Int32} {f : Nat → Nat → Int32} {v3 : Nat → Int32} {f4 : Nat → Nat → Int32} (h0 : gsX_X6_expression_14 NF v f = (1, v3, f4)) : gsX_X6_expression_13 NF v f = gsX_X6_expression_13_L6 NF (4294967296 + NF) 0 v3 f4 := by
  simp only [gsX_X6_expression_13, h0, ite11, ite01, if_true, if_false]
theorem gsX_X6_expression_13_q5 {NF : Nat} {v : Nat → Int32} {f : Nat → Nat → Int32} {v3 : Nat → Int32} {f4 : Nat → Nat → Int32} (h0 : gsX_X6_expression_14 NF v f = (0, v3, f4)) : gsX_X6_expression_13 NF v f = (0, v3, f4) := by
  simp only [gsX_X6_expression_13, h0, ite11, ite01, if_true, if_false]
theorem gsX_X6_expression_13_q0 {NF : Nat} {n6 : Nat} {l4_6 : Int32} {v6 : Nat → Int32} {f6 : Nat → Nat → Int32} (h0 : (1600 ≤ l4_6)) : gsX_X6_expression_13_L6 NF (n6 + 1) l4_6 v6 f6 = (1, v6, f6) := by
  simp only [gsX_X6_expression_13_L6, if_pos h0]
theorem gsX_X6_expression_13_q1 {NF : Nat} {n6 : Nat} {l4_6 : Int32} {v6 : Nat → Int32} {f6 : Nat → Nat → Int32} {v12 : Nat → Int32} {f13 : Nat → Nat → Int32} {v16 : Nat → Int32} {f17 : Nat → Nat → Int32} {v20 : Nat → Int32} {f21 : Nat → Nat → Int32} {t22 : Int32} (h0 : ¬ (1600 ≤ l4_6)) (h1 : gsX_X6_joins_1 NF 0 (v6 2) v6 f6 = 1) (h2 : gsX_X9_advance_1 NF v6 f6 = (v12, f13)) (h3 : gsX_X6_expression_14 NF v12 f13 = (1, v16, f17)) (h5 : gsX_X4_add_1 NF (v6 2) 0 v16 f17 = (v20, f21)) (h6 : t22 = l4_6 + 1) : gsX_X6_expression_13_L6 NF (n6 + 1) l4_6 v6 f6 = gsX_X6_expression_13_L6 NF n6 t22 v20 f21 := by
  subst h6
  simp only [gsX_X6_expression_13_L6, if_neg h0, h1, h2, h3, h5, ite11, ite01, if_true, if_false]
theorem gsX_X6_expression_13_q2 {NF : Nat} {n6 : Nat} {l4_6 : Int32} {v6 : Nat → Int32} {f6 : Nat → Nat → Int32} {v12 : Nat → Int32} {f13 : Nat → Nat → Int32} {v16 : Nat → Int32} {f17 : Nat → Nat → Int32} (h0 : ¬ (1600 ≤ l4_6)) (h1 : gsX_X6_joins_1 NF 0 (v6 2) v6 f6 = 1) (h2 : gsX_X9_advance_1 NF v6 f6 = (v12, f13)) (h3 : gsX_X6_expression_14 NF v12 f13 = (0, v16, f17)) : gsX_X6_expression_13_L6 NF (n6 + 1) l4_6 v6 f6 = (0, v16, f17) := by
  simp only [gsX_X6_expression_13_L6, if_neg h0, h1, h2, h3, ite11, ite01, if_true, if_false]
theorem gsX_X6_expression_13_q3 {NF : Nat} {n6 : Nat} {l4_6 : Int32} {v6 : Nat → Int32} {f6 : Nat → Nat → Int32} (h0 : ¬ (1600 ≤ l4_6)) (h1 : gsX_X6_joins_1 NF 0 (v6 2) v6 f6 = 0) : gsX_X6_expression_13_L6 NF (n6 + 1) l4_6 v6 f6 = (1, v6, f6) := by
  simp only [gsX_X6_expression_13_L6, if_neg h0, h1, ite11, ite01, if_true, if_false]
def gsX_X6_unit_2 (NF : Nat) (v : Nat → Int32) (f : Nat → Nat → Int32) : Int32 × (Nat → Int32) × (Nat → Nat → Int32) :=
  if (v 2) = 2 then
    if (v 17) < 30 then
      match gsX_X4_add_1 NF (v 2) (v 5) v f with
      | (v4, f5) =>
        let t6 : Int32 := (v4 17) + 1
        match gsX_X9_advance_1 NF (upd v4 17 t6) f5 with
        | (v8, f9) =>
          (1, v8, f9)
    else
      match gsX_X6_refuse_1 NF v f with
      | (r10, v12, f13) =>
        if r10 = 1 then
          (1, v12, f13)
        else
          (0, v12, f13)
  else
    if (v 2) < 116 then
      if (v 2) = 40 then
        if (v 17) < 30 then
          let t23 : Int32 := (v 17) + 1
          match gsX_X9_advance_1 NF (upd v 17 t23) f with
          | (v26, f27) =>
            match stk NF (gsX_X6_expression_13 NF v26 f27) with
            | (r28, v30, f31) =>
              if r28 = 1 then
                match gsX_X6_taken_1 NF 41 v30 f31 with
                | (r33, v35, f36) =>
                  if r33 = 1 then
                    (1, v35, f36)
                  else
                    (0, v35, f36)
              else
                (0, v30, f31)
        else
          match gsX_X6_refuse_1 NF v f with
          | (r38, v40, f41) =>
            if r38 = 1 then
              (1, v40, f41)
            else
              (0, v40, f41)
      else
        match gsX_X6_refuse_1 NF v f with
        | (r17, v19, f20) =>
          if r17 = 1 then
            (1, v19, f20)
          else
            (0, v19, f20)
    else
      if 121 < (v 2) then
        if (v 2) = 40 then
          if (v 17) < 30 then
            let t51 : Int32 := (v 17) + 1
            match gsX_X9_advance_1 NF (upd v 17 t51) f with
            | (v54, f55) =>
              match stk NF (gsX_X6_expression_13 NF v54 f55) with
              | (r56, v58, f59) =>
                if r56 = 1 then
                  match gsX_X6_taken_1 NF 41 v58 f59 with
                  | (r61, v63, f64) =>
                    if r61 = 1 then
                      (1, v63, f64)
                    else
                      (0, v63, f64)
                else
                  (0, v58, f59)
          else
            match gsX_X6_refuse_1 NF v f with
            | (r66, v68, f69) =>
              if r66 = 1 then
                (1, v68, f69)
              else
                (0, v68, f69)
        else
          match gsX_X6_refuse_1 NF v f with
          | (r45, v47, f48) =>
            if r45 = 1 then
              (1, v47, f48)
            else
              (0, v47, f48)
      else
        if (v 17) < 30 then
          match gsX_X4_add_1 NF (v 2) (v 5) v f with
          | (v73, f74) =>
            let t75 : Int32 := (v73 17) + 1
            match gsX_X9_advance_1 NF (upd v73 17 t75) f74 with
            | (v77, f78) =>
              (1, v77, f78)
        else
          match gsX_X6_refuse_1 NF v f with
          | (r79, v81, f82) =>
            if r79 = 1 then
              (1, v81, f82)
            else
              (0, v81, f82)
theorem gsX_X6_unit_2_q0 {NF : Nat} {v : Nat → Int32} {f : Nat → Nat → Int32} {v4 : Nat → Int32} {f5 : Nat → Nat → Int32} {t6 : Int32} {v8 : Nat → Int32} {f9 : Nat → Nat → Int32} (h0 : ((v 2) = 2)) (h1 : ((v 17) < 30)) (h2 : gsX_X4_add_1 NF (v 2) (v 5) v f = (v4, f5)) (h3 : t6 = (v4 17) + 1) (h4 : gsX_X9_advance_1 NF (upd v4 17 t6) f5 = (v8, f9)) : gsX_X6_unit_2 NF v f = (1, v8, f9) := by
  subst h3
  simp only [gsX_X6_unit_2, stk_eq, if_pos h0, if_pos h1, h2, h4]
theorem gsX_X6_unit_2_q1 {NF : Nat} {v : Nat → Int32} {f : Nat → Nat → Int32} {v12 : Nat → Int32} {f13 : Nat → Nat → Int32} (h0 : ((v 2) = 2)) (h1 : ¬ ((v 17) < 30)) (h2 : gsX_X6_refuse_1 NF v f = (1, v12, f13)) : gsX_X6_unit_2 NF v f = (1, v12, f13) := by
  simp only [gsX_X6_unit_2, stk_eq, if_pos h0, if_neg h1, h2, ite11, ite01, if_true, if_false]
theorem gsX_X6_unit_2_q2 {NF : Nat} {v : Nat → Int32} {f : Nat → Nat → Int32} {v12 : Nat → Int32} {f13 : Nat → Nat → Int32} (h0 : ((v 2) = 2)) (h1 : ¬ ((v 17) < 30)) (h2 : gsX_X6_refuse_1 NF v f = (0, v12, f13)) : gsX_X6_unit_2 NF v f = (0, v12, f13) := by
  simp only [gsX_X6_unit_2, stk_eq, if_pos h0, if_neg h1, h2, ite11, ite01, if_true, if_false]
theorem gsX_X6_unit_2_q3 {NF : Nat} {v : Nat → Int32} {f : Nat → Nat → Int32} {v19 : Nat → Int32} {f20 : Nat → Nat → Int32} (h0 : ¬ ((v 2) = 2)) (h1 : ((v 2) < 116)) (h2 : ¬ ((v 2) = 40)) (h3 : gsX_X6_refuse_1 NF v f = (1, v19, f20)) : gsX_X6_unit_2 NF v f = (1, v19, f20) := by
  simp only [gsX_X6_unit_2, stk_eq, if_neg h0, if_pos h1, if_neg h2, h3, ite11, ite01, if_true, if_false]
theorem gsX_X6_unit_2_q4 {NF : Nat} {v : Nat → Int32} {f : Nat → Nat → Int32} {v19 : Nat → Int32} {f20 : Nat → Nat → Int32} (h0 : ¬ ((v 2) = 2)) (h1 : ((v 2) < 116)) (h2 : ¬ ((v 2) = 40)) (h3 : gsX_X6_refuse_1 NF v f = (0, v19, f20)) : gsX_X6_unit_2 NF v f = (0, v19, f20) := by
  simp only [gsX_X6_unit_2, stk_eq, if_neg h0, if_pos h1, if_neg h2, h3, ite11, ite01, if_true, if_false]
theorem gsX_X6_unit_2_q5 {NF : Nat} {v : Nat → Int32} {f : Nat → Nat → Int32} {t23 : Int32} {v26 : Nat → Int32} {f27 : Nat → Nat → Int32} {v30 : Nat → Int32} {f31 : Nat → Nat → Int32} {v35 : Nat → Int32} {f36 : Nat → Nat → Int32} (h0 : ¬ ((v 2) = 2)) (h1 : ((v 2) < 116)) (h2 : ((v 2) = 40)) (h3 : ((v 17) < 30)) (h4 : t23 = (v 17) + 1) (h5 : gsX_X9_advance_1 NF (upd v 17 t23) f = (v26, f27)) (h6 : gsX_X6_expression_13 NF v26 f27 = (1, v30, f31)) (h8 : gsX_X6_taken_1 NF 41 v30 f31 = (1, v35, f36)) : gsX_X6_unit_2 NF v f = (1, v35, f36) := by
  subst h4
  simp only [gsX_X6_unit_2, stk_eq, if_neg h0, if_pos h1, if_pos h2, if_pos h3, h5, h6, h8, ite11, ite01, if_true, if_false]
theorem gsX_X6_unit_2_q6 {NF : Nat} {v : Nat → Int32} {f : Nat → Nat → Int32} {t23 : Int32} {v26 : Nat → Int32} {f27 : Nat → Nat → Int32} {v30 : Nat → Int32} {f31 : Nat → Nat → Int32} {v35 : Nat → Int32} {f36 : Nat → Nat → Int32} (h0 : ¬ ((v 2) = 2)) (h1 : ((v 2) < 116)) (h2 : ((v 2) = 40)) (h3 : ((v 17) < 30)) (h4 : t23 = (v 17) + 1) (h5 : gsX_X9_advance_1 NF (upd v 17 t23) f = (v26, f27)) (h6 : gsX_X6_expression_13 NF v26 f27 = (1, v30, f31)) (h8 : gsX_X6_taken_1 NF 41 v30 f31 = (0, v35, f36)) : gsX_X6_unit_2 NF v f = (0, v35, f36) := by
  subst h4
  simp only [gsX_X6_unit_2, stk_eq, if_neg h0, if_pos h1, if_pos h2, if_pos h3, h5, h6, h8, ite11, ite01, if_true, if_false]
theorem gsX_X6_unit_2_q7 {NF : Nat} {v : Nat → Int32} {f : Nat → Nat → Int32} {t23 : Int32} {v26 : Nat → Int32} {f27 : Nat → Nat → Int32} {v30 : Nat → Int32} {f31 : Nat → Nat → Int32} (h0 : ¬ ((v 2) = 2)) (h1 : ((v 2) < 116)) (h2 : ((v 2) = 40)) (h3 : ((v 17) < 30)) (h4 : t23 = (v 17) + 1) (h5 : gsX_X9_advance_1 NF (upd v 17 t23) f = (v26, f27)) (h6 : gsX_X6_expression_13 NF v26 f27 = (0, v30, f31)) : gsX_X6_unit_2 NF v f = (0, v30, f31) := by
  subst h4
  simp only [gsX_X6_unit_2, stk_eq, if_neg h0, if_pos h1, if_pos h2, if_pos h3, h5, h6, ite11, ite01, if_true, if_false]
theorem gsX_X6_unit_2_q8 {NF : Nat} {v : Nat → Int32} {f : Nat → Nat → Int32} {v40 : Nat → Int32} {f41 : Nat → Nat → Int32} (h0 : ¬ ((v 2) = 2)) (h1 : ((v 2) < 116)) (h2 : ((v 2) = 40)) (h3 : ¬ ((v 17) < 30)) (h4 : gsX_X6_refuse_1 NF v f = (1, v40, f41)) : gsX_X6_unit_2 NF v f = (1, v40, f41) := by
  simp only [gsX_X6_unit_2, stk_eq, if_neg h0, if_pos h1, if_pos h2, if_neg h3, h4, ite11, ite01, if_true, if_false]
theorem gsX_X6_unit_2_q9 {NF : Nat} {v : Nat → Int32} {f : Nat → Nat → Int32} {v40 : Nat → Int32} {f41 : Nat → Nat → Int32} (h0 : ¬ ((v 2) = 2)) (h1 : ((v 2) < 116)) (h2 : ((v 2) = 40)) (h3 : ¬ ((v 17) < 30)) (h4 : gsX_X6_refuse_1 NF v f = (0, v40, f41)) : gsX_X6_unit_2 NF v f = (0, v40, f41) := by
  simp only [gsX_X6_unit_2, stk_eq, if_neg h0, if_pos h1, if_pos h2, if_neg h3, h4, ite11, ite01, if_true, if_false]
theorem gsX_X6_unit_2_q10 {NF : Nat} {v : Nat → Int32} {f : Nat → Nat → Int32} {v47 : Nat → Int32} {f48 : Nat → Nat → Int32} (h0 : ¬ ((v 2) = 2)) (h1 : ¬ ((v 2) < 116)) (h2 : (121 < (v 2))) (h3 : ¬ ((v 2) = 40)) (h4 : gsX_X6_refuse_1 NF v f = (1, v47, f48)) : gsX_X6_unit_2 NF v f = (1, v47, f48) := by
  simp only [gsX_X6_unit_2, stk_eq, if_neg h0, if_neg h1, if_pos h2, if_neg h3, h4, ite11, ite01, if_true, if_false]
theorem gsX_X6_unit_2_q11 {NF : Nat} {v : Nat → Int32} {f : Nat → Nat → Int32} {v47 : Nat → Int32} {f48 : Nat → Nat → Int32} (h0 : ¬ ((v 2) = 2)) (h1 : ¬ ((v 2) < 116)) (h2 : (121 < (v 2))) (h3 : ¬ ((v 2) = 40)) (h4 : gsX_X6_refuse_1 NF v f = (0, v47, f48)) : gsX_X6_unit_2 NF v f = (0, v47, f48) := by
  simp only [gsX_X6_unit_2, stk_eq, if_neg h0, if_neg h1, if_pos h2, if_neg h3, h4, ite11, ite01, if_true, if_false]
theorem gsX_X6_unit_2_q12 {NF : Nat} {v : Nat → Int32} {f : Nat → Nat → Int32} {t51 : Int32} {v54 : Nat → Int32} {f55 : Nat → Nat → Int32} {v58 : Nat → Int32} {f59 : Nat → Nat → Int32} {v63 : Nat → Int32} {f64 : Nat → Nat → Int32} (h0 : ¬ ((v 2) = 2)) (h1 : ¬ ((v 2) < 116)) (h2 : (121 < (v 2))) (h3 : ((v 2) = 40)) (h4 : ((v 17) < 30)) (h5 : t51 = (v 17) + 1) (h6 : gsX_X9_advance_1 NF (upd v 17 t51) f = (v54, f55)) (h7 : gsX_X6_expression_13 NF v54 f55 = (1, v58, f59)) (h9 : gsX_X6_taken_1 NF 41 v58 f59 = (1, v63, f64)) : gsX_X6_unit_2 NF v f = (1, v63, f64) := by
  subst h5
  simp only [gsX_X6_unit_2, stk_eq, if_neg h0, if_neg h1, if_pos h2, if_pos h3, if_pos h4, h6, h7, h9, ite11, ite01, if_true, if_false]
theorem gsX_X6_unit_2_q13 {NF : Nat} {v : Nat → Int32} {f : Nat → Nat → Int32} {t51 : Int32} {v54 : Nat → Int32} {f55 : Nat → Nat → Int32} {v58 : Nat → Int32} {f59 : Nat → Nat → Int32} {v63 : Nat → Int32} {f64 : Nat → Nat → Int32} (h0 : ¬ ((v 2) = 2)) (h1 : ¬ ((v 2) < 116)) (h2 : (121 < (v 2))) (h3 : ((v 2) = 40)) (h4 : ((v 17) < 30)) (h5 : t51 = (v 17) + 1) (h6 : gsX_X9_advance_1 NF (upd v 17 t51) f = (v54, f55)) (h7 : gsX_X6_expression_13 NF v54 f55 = (1, v58, f59)) (h9 : gsX_X6_taken_1 NF 41 v58 f59 = (0, v63, f64)) : gsX_X6_unit_2 NF v f = (0, v63, f64) := by
  subst h5
  simp only [gsX_X6_unit_2, stk_eq, if_neg h0, if_neg h1, if_pos h2, if_pos h3, if_pos h4, h6, h7, h9, ite11, ite01, if_true, if_false]
theorem gsX_X6_unit_2_q14 {NF : Nat} {v : Nat → Int32} {f : Nat → Nat → Int32} {t51 : Int32} {v54 : Nat → Int32} {f55 : Nat → Nat → Int32} {v58 : Nat → Int32} {f59 : Nat → Nat → Int32} (h0 : ¬ ((v 2) = 2)) (h1 : ¬ ((v 2) < 116)) (h2 : (121 < (v 2))) (h3 : ((v 2) = 40)) (h4 : ((v 17) < 30)) (h5 : t51 = (v 17) + 1) (h6 : gsX_X9_advance_1 NF (upd v 17 t51) f = (v54, f55)) (h7 : gsX_X6_expression_13 NF v54 f55 = (0, v58, f59)) : gsX_X6_unit_2 NF v f = (0, v58, f59) := by
  subst h5
  simp only [gsX_X6_unit_2, stk_eq, if_neg h0, if_neg h1, if_pos h2, if_pos h3, if_pos h4, h6, h7, ite11, ite01, if_true, if_false]
theorem gsX_X6_unit_2_q15 {NF : Nat} {v : Nat → Int32} {f : Nat → Nat → Int32} {v68 : Nat → Int32} {f69 : Nat → Nat → Int32} (h0 : ¬ ((v 2) = 2)) (h1 : ¬ ((v 2) < 116)) (h2 : (121 < (v 2))) (h3 : ((v 2) = 40)) (h4 : ¬ ((v 17) < 30)) (h5 : gsX_X6_refuse_1 NF v f = (1, v68, f69)) : gsX_X6_unit_2 NF v f = (1, v68, f69) := by
  simp only [gsX_X6_unit_2, stk_eq, if_neg h0, if_neg h1, if_pos h2, if_pos h3, if_neg h4, h5, ite11, ite01, if_true, if_false]
theorem gsX_X6_unit_2_q16 {NF : Nat} {v : Nat → Int32} {f : Nat → Nat → Int32} {v68 : Nat → Int32} {f69 : Nat → Nat → Int32} (h0 : ¬ ((v 2) = 2)) (h1 : ¬ ((v 2) < 116)) (h2 : (121 < (v 2))) (h3 : ((v 2) = 40)) (h4 : ¬ ((v 17) < 30)) (h5 : gsX_X6_refuse_1 NF v f = (0, v68, f69)) : gsX_X6_unit_2 NF v f = (0, v68, f69) := by
  simp only [gsX_X6_unit_2, stk_eq, if_neg h0, if_neg h1, if_pos h2, if_pos h3, if_neg h4, h5, ite11, ite01, if_true, if_false]
theorem gsX_X6_unit_2_q17 {NF : Nat} {v : Nat → Int32} {f : Nat → Nat → Int32} {v73 : Nat → Int32} {f74 : Nat → Nat → Int32} {t75 : Int32} {v77 : Nat → Int32} {f78 : Nat → Nat → Int32} (h0 : ¬ ((v 2) = 2)) (h1 : ¬ ((v 2) < 116)) (h2 : ¬ (121 < (v 2))) (h3 : ((v 17) < 30)) (h4 : gsX_X4_add_1 NF (v 2) (v 5) v f = (v73, f74)) (h5 : t75 = (v73 17) + 1) (h6 : gsX_X9_advance_1 NF (upd v73 17 t75) f74 = (v77, f78)) : gsX_X6_unit_2 NF v f = (1, v77, f78) := by
  subst h5
  simp only [gsX_X6_unit_2, stk_eq, if_neg h0, if_neg h1, if_neg h2, if_pos h3, h4, h6]
theorem gsX_X6_unit_2_q18 {NF : Nat} {v : Nat → Int32} {f : Nat → Nat → Int32} {v81 : Nat → Int32} {f82 : Nat → Nat → Int32} (h0 : ¬ ((v 2) = 2)) (h1 : ¬ ((v 2) < 116)) (h2 : ¬ (121 < (v 2))) (h3 : ¬ ((v 17) < 30)) (h4 : gsX_X6_refuse_1 NF v f = (1, v81, f82)) : gsX_X6_unit_2 NF v f = (1, v81, f82) := by
  simp only [gsX_X6_unit_2, stk_eq, if_neg h0, if_neg h1, if_neg h2, if_neg h3, h4, ite11, ite01, if_true, if_false]
theorem gsX_X6_unit_2_q19 {NF : Nat} {v : Nat → Int32} {f : Nat → Nat → Int32} {v81 : Nat → Int32} {f82 : Nat → Nat → Int32} (h0 : ¬ ((v 2) = 2)) (h1 : ¬ ((v 2) < 116)) (h2 : ¬ (121 < (v 2))) (h3 : ¬ ((v 17) < 30)) (h4 : gsX_X6_refuse_1 NF v f = (0, v81, f82)) : gsX_X6_unit_2 NF v f = (0, v81, f82) := by
  simp only [gsX_X6_unit_2, stk_eq, if_neg h0, if_neg h1, if_neg h2, if_neg h3, h4, ite11, ite01, if_true, if_false]
def gsX_X6_expression_12 (NF : Nat) (v : Nat → Int32) (f : Nat → Nat → Int32) : Int32 × (Nat → Int32) × (Nat → Nat → Int32) :=
  match gsX_X6_unit_2 NF v f with
  | (r1, v3, f4) =>
    if r1 = 1 then
      (1, v3, f4)
    else
      (0, v3, f4)
theorem gsX_X6_expression_12_q0 {NF : Nat} {v : Nat → Int32} {f : Nat → Nat → Int32} {v3 : Nat → Int32} {f4 : Nat → Nat → Int32} (h0 : gsX_X6_unit_2 NF v f = (1, v3, f4)) : gsX_X6_expression_12 NF v f = (1, v3, f4) := by
  simp only [gsX_X6_expression_12, h0, ite11, ite01, if_true, if_false]
theorem gsX_X6_expression_12_q1 {NF : Nat} {v : Nat → Int32} {f : Nat → Nat → Int32} {v3 : Nat → Int32} {f4 : Nat → Nat → Int32} (h0 : gsX_X6_unit_2 NF v f = (0, v3, f4)) : gsX_X6_expression_12 NF v f = (0, v3, f4) := by
  simp only [gsX_X6_expression_12, h0, ite11, ite01, if_true, if_false]
def gsX_X6_expression_11_L6 (NF : Nat) : Nat → (Int32) → (Nat → Int32) → (Nat → Nat → Int32) → Int32 × (Nat → Int32) × (Nat → Nat → Int32)
  | 0, _, _, _ => (0, (fun _ => 0), (fun _ _ => 0))
  | n6 + 1, l4_6, v6, f6 =>
    if 1600 ≤ l4_6 then
      (1, v6, f6)
    else
      if gsX_X6_joins_1 NF 4 (v6 2) v6 f6 = 1 then
        match gsX_X9_advance_1 NF v6 f6 with
        | (v12, f13) =>
          match gsX_X6_expression_12 NF v12 f13 with
          | (r14, v16, f17) =>
            if r14 = 1 then
              match gsX_X4_add_1 NF (v6 2) 0 v16 f17 with
              | (v20, f21) =>
                let t22 : Int32 := l4_6 + 1
                gsX_X6_expression_11_L6 NF n6 t22 v20 f21
            else
              (0, v16, f17)
      else
        (1, v6, f6)
def gsX_X6_expression_11 (NF : Nat) (v : Nat → Int32) (f : Nat → Nat → Int32) : Int32 × (Nat → Int32) × (Nat → Nat → Int32) :=
  match gsX_X6_expression_12 NF v f with
  | (r1, v3, f4) =>
    if r1 = 1 then
      gsX_X6_expression_11_L6 NF (4294967296 + NF) 0 v3 f4
    else
      (0, v3, f4)
theorem gsX_X6_expression_11_q4 {NF : Nat} {v : Nat → Int32} {f : Nat → Nat → Int32} {v3 : Nat → Int32} {f4 : Nat → Nat → Int32} (h0 : gsX_X6_expression_12 NF v f = (1, v3, f4)) : gsX_X6_expression_11 NF v f = gsX_X6_expression_11_L6 NF (4294967296 + NF) 0 v3 f4 := by
  simp only [gsX_X6_expression_11, h0, ite11, ite01, if_true, if_false]
theorem gsX_X6_expression_11_q5 {NF : Nat} {v : Nat → Int32} {f : Nat → Nat → Int32} {v3 : Nat → Int32} {f4 : Nat → Nat → Int32} (h0 : gsX_X6_expression_12 NF v f = (0, v3, f4)) : gsX_X6_expression_11 NF v f = (0, v3, f4) := by
  simp only [gsX_X6_expression_11, h0, ite11, ite01, if_true, if_false]
theorem gsX_X6_expression_11_q0 {NF : Nat} {n6 : Nat} {l4_6 : Int32} {v6 : Nat → Int32} {f6 : Nat → Nat → Int32} (h0 : (1600 ≤ l4_6)) : gsX_X6_expression_11_L6 NF (n6 + 1) l4_6 v6 f6 = (1, v6, f6) := by
  simp only [gsX_X6_expression_11_L6, if_pos h0]
theorem gsX_X6_expression_11_q1 {NF : Nat} {n6 : Nat} {l4_6 : Int32} {v6 : Nat → Int32} {f6 : Nat → Nat → Int32} {v12 : Nat → Int32} {f13 : Nat → Nat → Int32} {v16 : Nat → Int32} {f17 : Nat → Nat → Int32} {v20 : Nat → Int32} {f21 : Nat → Nat → Int32} {t22 : Int32} (h0 : ¬ (1600 ≤ l4_6)) (h1 : gsX_X6_joins_1 NF 4 (v6 2) v6 f6 = 1) (h2 : gsX_X9_advance_1 NF v6 f6 = (v12, f13)) (h3 : gsX_X6_expression_12 NF v12 f13 = (1, v16, f17)) (h5 : gsX_X4_add_1 NF (v6 2) 0 v16 f17 = (v20, f21)) (h6 : t22 = l4_6 + 1) : gsX_X6_expression_11_L6 NF (n6 + 1) l4_6 v6 f6 = gsX_X6_expression_11_L6 NF n6 t22 v20 f21 := by
  subst h6
  simp only [gsX_X6_expression_11_L6, if_neg h0, h1, h2, h3, h5, ite11, ite01, if_true, if_false]
theorem gsX_X6_expression_11_q2 {NF : Nat} {n6 : Nat} {l4_6 : Int32} {v6 : Nat → Int32} {f6 : Nat → Nat → Int32} {v12 : Nat → Int32} {f13 : Nat → Nat → Int32} {v16 : Nat → Int32} {f17 : Nat → Nat → Int32} (h0 : ¬ (1600 ≤ l4_6)) (h1 : gsX_X6_joins_1 NF 4 (v6 2) v6 f6 = 1) (h2 : gsX_X9_advance_1 NF v6 f6 = (v12, f13)) (h3 : gsX_X6_expression_12 NF v12 f13 = (0, v16, f17)) : gsX_X6_expression_11_L6 NF (n6 + 1) l4_6 v6 f6 = (0, v16, f17) := by
  simp only [gsX_X6_expression_11_L6, if_neg h0, h1, h2, h3, ite11, ite01, if_true, if_false]
theorem gsX_X6_expression_11_q3 {NF : Nat} {n6 : Nat} {l4_6 : Int32} {v6 : Nat → Int32} {f6 : Nat → Nat → Int32} (h0 : ¬ (1600 ≤ l4_6)) (h1 : gsX_X6_joins_1 NF 4 (v6 2) v6 f6 = 0) : gsX_X6_expression_11_L6 NF (n6 + 1) l4_6 v6 f6 = (1, v6, f6) := by
  simp only [gsX_X6_expression_11_L6, if_neg h0, h1, ite11, ite01, if_true, if_false]
def gsX_X6_expression_10_L6 (NF : Nat) : Nat → (Int32) → (Nat → Int32) → (Nat → Nat → Int32) → Int32 × (Nat → Int32) × (Nat → Nat → Int32)
  | 0, _, _, _ => (0, (fun _ => 0), (fun _ _ => 0))
  | n6 + 1, l4_6, v6, f6 =>
    if 1600 ≤ l4_6 then
      (1, v6, f6)
    else
      if gsX_X6_joins_1 NF 3 (v6 2) v6 f6 = 1 then
        match gsX_X9_advance_1 NF v6 f6 with
        | (v12, f13) =>
          match gsX_X6_expression_11 NF v12 f13 with
          | (r14, v16, f17) =>
            if r14 = 1 then
              match gsX_X4_add_1 NF (v6 2) 0 v16 f17 with
              | (v20, f21) =>
                let t22 : Int32 := l4_6 + 1
                gsX_X6_expression_10_L6 NF n6 t22 v20 f21
            else
              (0, v16, f17)
      else
        (1, v6, f6)
def gsX_X6_expression_10 (NF : Nat) (v : Nat → Int32) (f : Nat → Nat → Int32) : Int32 × (Nat → Int32) × (Nat → Nat → Int32) :=
  match gsX_X6_expression_11 NF v f with
  | (r1, v3, f4) =>
    if r1 = 1 then
      gsX_X6_expression_10_L6 NF (4294967296 + NF) 0 v3 f4
    else
      (0, v3, f4)
theorem gsX_X6_expression_10_q4 {NF : Nat} {v : Nat → Int32} {f : Nat → Nat → Int32} {v3 : Nat → Int32} {f4 : Nat → Nat → Int32} (h0 : gsX_X6_expression_11 NF v f = (1, v3, f4)) : gsX_X6_expression_10 NF v f = gsX_X6_expression_10_L6 NF (4294967296 + NF) 0 v3 f4 := by
  simp only [gsX_X6_expression_10, h0, ite11, ite01, if_true, if_false]
theorem gsX_X6_expression_10_q5 {NF : Nat} {v : Nat → Int32} {f : Nat → Nat → Int32} {v3 : Nat → Int32} {f4 : Nat → Nat → Int32} (h0 : gsX_X6_expression_11 NF v f = (0, v3, f4)) : gsX_X6_expression_10 NF v f = (0, v3, f4) := by
  simp only [gsX_X6_expression_10, h0, ite11, ite01, if_true, if_false]
theorem gsX_X6_expression_10_q0 {NF : Nat} {n6 : Nat} {l4_6 : Int32} {v6 : Nat → Int32} {f6 : Nat → Nat → Int32} (h0 : (1600 ≤ l4_6)) : gsX_X6_expression_10_L6 NF (n6 + 1) l4_6 v6 f6 = (1, v6, f6) := by
  simp only [gsX_X6_expression_10_L6, if_pos h0]
theorem gsX_X6_expression_10_q1 {NF : Nat} {n6 : Nat} {l4_6 : Int32} {v6 : Nat → Int32} {f6 : Nat → Nat → Int32} {v12 : Nat → Int32} {f13 : Nat → Nat → Int32} {v16 : Nat → Int32} {f17 : Nat → Nat → Int32} {v20 : Nat → Int32} {f21 : Nat → Nat → Int32} {t22 : Int32} (h0 : ¬ (1600 ≤ l4_6)) (h1 : gsX_X6_joins_1 NF 3 (v6 2) v6 f6 = 1) (h2 : gsX_X9_advance_1 NF v6 f6 = (v12, f13)) (h3 : gsX_X6_expression_11 NF v12 f13 = (1, v16, f17)) (h5 : gsX_X4_add_1 NF (v6 2) 0 v16 f17 = (v20, f21)) (h6 : t22 = l4_6 + 1) : gsX_X6_expression_10_L6 NF (n6 + 1) l4_6 v6 f6 = gsX_X6_expression_10_L6 NF n6 t22 v20 f21 := by
  subst h6
  simp only [gsX_X6_expression_10_L6, if_neg h0, h1, h2, h3, h5, ite11, ite01, if_true, if_false]
theorem gsX_X6_expression_10_q2 {NF : Nat} {n6 : Nat} {l4_6 : Int32} {v6 : Nat → Int32} {f6 : Nat → Nat → Int32} {v12 : Nat → Int32} {f13 : Nat → Nat → Int32} {v16 : Nat → Int32} {f17 : Nat → Nat → Int32} (h0 : ¬ (1600 ≤ l4_6)) (h1 : gsX_X6_joins_1 NF 3 (v6 2) v6 f6 = 1) (h2 : gsX_X9_advance_1 NF v6 f6 = (v12, f13)) (h3 : gsX_X6_expression_11 NF v12 f13 = (0, v16, f17)) : gsX_X6_expression_10_L6 NF (n6 + 1) l4_6 v6 f6 = (0, v16, f17) := by
  simp only [gsX_X6_expression_10_L6, if_neg h0, h1, h2, h3, ite11, ite01, if_true, if_false]
theorem gsX_X6_expression_10_q3 {NF : Nat} {n6 : Nat} {l4_6 : Int32} {v6 : Nat → Int32} {f6 : Nat → Nat → Int32} (h0 : ¬ (1600 ≤ l4_6)) (h1 : gsX_X6_joins_1 NF 3 (v6 2) v6 f6 = 0) : gsX_X6_expression_10_L6 NF (n6 + 1) l4_6 v6 f6 = (1, v6, f6) := by
  simp only [gsX_X6_expression_10_L6, if_neg h0, h1, ite11, ite01, if_true, if_false]
def gsX_X6_negation_7 (NF : Nat) (v : Nat → Int32) (f : Nat → Nat → Int32) : Int32 × (Nat → Int32) × (Nat → Nat → Int32) :=
  match gsX_X9_advance_1 NF v f with
  | (v2, f3) =>
    match stk NF (gsX_X6_expression_15 NF v2 f3) with
    | (r4, v6, f7) =>
      if r4 = 1 then
        match gsX_X4_add_1 NF 115 0 v6 f7 with
        | (v10, f11) =>
          (1, v10, f11)
      else
        (0, v6, f7)
theorem gsX_X6_negation_7_q0 {NF : Nat} {v : Nat → Int32} {f : Nat → Nat → Int32} {v2 : Nat → Int32} {f3 : Nat → Nat → Int32} {v6 : Nat → Int32} {f7 : Nat → Nat → Int32} {v10 : Nat → Int32} {f11 : Nat → Nat → Int32} (h0 : gsX_X9_advance_1 NF v f = (v2, f3)) (h1 : gsX_X6_expression_15 NF v2 f3 = (1, v6, f7)) (h3 : gsX_X4_add_1 NF 115 0 v6 f7 = (v10, f11)) : gsX_X6_negation_7 NF v f = (1, v10, f11) := by
  simp only [gsX_X6_negation_7, stk_eq, h0, h1, h3, ite11, ite01, if_true, if_false]
theorem gsX_X6_negation_7_q1 {NF : Nat} {v : Nat → Int32} {f : Nat → Nat → Int32} {v2 : Nat → Int32} {f3 : Nat → Nat → Int32} {v6 : Nat → Int32} {f7 : Nat → Nat → Int32} (h0 : gsX_X9_advance_1 NF v f = (v2, f3)) (h1 : gsX_X6_expression_15 NF v2 f3 = (0, v6, f7)) : gsX_X6_negation_7 NF v f = (0, v6, f7) := by
  simp only [gsX_X6_negation_7, stk_eq, h0, h1, ite11, ite01, if_true, if_false]
def gsX_X6_expression_9_L7 (NF : Nat) : Nat → (Int32) → (Nat → Int32) → (Nat → Nat → Int32) → Int32 × (Nat → Int32) × (Nat → Nat → Int32)
  | 0, _, _, _ => (0, (fun _ => 0), (fun _ _ => 0))
  | n7 + 1, l4_7, v7, f7 =>
    if 1 ≤ l4_7 then
      (1, v7, f7)
    else
      if gsX_X6_joins_1 NF 2 (v7 2) v7 f7 = 1 then
        match gsX_X9_advance_1 NF v7 f7 with
        | (v13, f14) =>
          match gsX_X6_expression_10 NF v13 f14 with
          | (r15, v17, f18) =>
            if r15 = 1 then
              match gsX_X4_add_1 NF (v7 2) 0 v17 f18 with
              | (v21, f22) =>
                let t23 : Int32 := l4_7 + 1
                gsX_X6_expression_9_L7 NF n7 t23 v21 f22
            else
              (0, v17, f18)
      else
        (1, v7, f7)
def gsX_X6_expression_9 (NF : Nat) (v : Nat → Int32) (f : Nat → Nat → Int32) : Int32 × (Nat → Int32) × (Nat → Nat → Int32) :=
  if (v 2) = 115 then
    match gsX_X6_negation_7 NF v f with
    | (r26, v28, f29) =>
      if r26 = 1 then
        (1, v28, f29)
      else
        (0, v28, f29)
  else
    match gsX_X6_expression_10 NF v f with
    | (r2, v4, f5) =>
      if r2 = 1 then
        gsX_X6_expression_9_L7 NF (4294967296 + NF) 0 v4 f5
      else
        (0, v4, f5)
theorem gsX_X6_expression_9_q4 {NF : Nat} {v : Nat → Int32} {f : Nat → Nat → Int32} {v4 : Nat → Int32} {f5 : Nat → Nat → Int32} (h0 : ¬ ((v 2) = 115)) (h1 : gsX_X6_expression_10 NF v f = (1, v4, f5)) : gsX_X6_expression_9 NF v f = gsX_X6_expression_9_L7 NF (4294967296 + NF) 0 v4 f5 := by
  simp only [gsX_X6_expression_9, if_neg h0, h1, ite11, ite01, if_true, if_false]
theorem gsX_X6_expression_9_q5 {NF : Nat} {v : Nat → Int32} {f : Nat → Nat → Int32} {v4 : Nat → Int32} {f5 : Nat → Nat → Int32} (h0 : ¬ ((v 2) = 115)) (h1 : gsX_X6_expression_10 NF v f = (0, v4, f5)) : gsX_X6_expression_9 NF v f = (0, v4, f5) := by
  simp only [gsX_X6_expression_9, if_neg h0, h1, ite11, ite01, if_true, if_false]
theorem gsX_X6_expression_9_q6 {NF : Nat} {v : Nat → Int32} {f : Nat → Nat → Int32} {v28 : Nat → Int32} {f29 : Nat → Nat → Int32} (h0 : ((v 2) = 115)) (h1 : gsX_X6_negation_7 NF v f = (1, v28, f29)) : gsX_X6_expression_9 NF v f = (1, v28, f29) := by
  simp only [gsX_X6_expression_9, if_pos h0, h1, ite11, ite01, if_true, if_false]
theorem gsX_X6_expression_9_q7 {NF : Nat} {v : Nat → Int32} {f : Nat → Nat → Int32} {v28 : Nat → Int32} {f29 : Nat → Nat → Int32} (h0 : ((v 2) = 115)) (h1 : gsX_X6_negation_7 NF v f = (0, v28, f29)) : gsX_X6_expression_9 NF v f = (0, v28, f29) := by
  simp only [gsX_X6_expression_9, if_pos h0, h1, ite11, ite01, if_true, if_false]
theorem gsX_X6_expression_9_q0 {NF : Nat} {n7 : Nat} {l4_7 : Int32} {v7 : Nat → Int32} {f7 : Nat → Nat → Int32} (h0 : (1 ≤ l4_7)) : gsX_X6_expression_9_L7 NF (n7 + 1) l4_7 v7 f7 = (1, v7, f7) := by
  simp only [gsX_X6_expression_9_L7, if_pos h0]
theorem gsX_X6_expression_9_q1 {NF : Nat} {n7 : Nat} {l4_7 : Int32} {v7 : Nat → Int32} {f7 : Nat → Nat → Int32} {v13 : Nat → Int32} {f14 : Nat → Nat → Int32} {v17 : Nat → Int32} {f18 : Nat → Nat → Int32} {v21 : Nat → Int32} {f22 : Nat → Nat → Int32} {t23 : Int32} (h0 : ¬ (1 ≤ l4_7)) (h1 : gsX_X6_joins_1 NF 2 (v7 2) v7 f7 = 1) (h2 : gsX_X9_advance_1 NF v7 f7 = (v13, f14)) (h3 : gsX_X6_expression_10 NF v13 f14 = (1, v17, f18)) (h5 : gsX_X4_add_1 NF (v7 2) 0 v17 f18 = (v21, f22)) (h6 : t23 = l4_7 + 1) : gsX_X6_expression_9_L7 NF (n7 + 1) l4_7 v7 f7 = gsX_X6_expression_9_L7 NF n7 t23 v21 f22 := by
  subst h6
  simp only [gsX_X6_expression_9_L7, if_neg h0, h1, h2, h3, h5, ite11, ite01, if_true, if_false]
theorem gsX_X6_expression_9_q2 {NF : Nat} {n7 : Nat} {l4_7 : Int32} {v7 : Nat → Int32} {f7 : Nat → Nat → Int32} {v13 : Nat → Int32} {f14 : Nat → Nat → Int32} {v17 : Nat → Int32} {f18 : Nat → Nat → Int32} (h0 : ¬ (1 ≤ l4_7)) (h1 : gsX_X6_joins_1 NF 2 (v7 2) v7 f7 = 1) (h2 : gsX_X9_advance_1 NF v7 f7 = (v13, f14)) (h3 : gsX_X6_expression_10 NF v13 f14 = (0, v17, f18)) : gsX_X6_expression_9_L7 NF (n7 + 1) l4_7 v7 f7 = (0, v17, f18) := by
  simp only [gsX_X6_expression_9_L7, if_neg h0, h1, h2, h3, ite11, ite01, if_true, if_false]
theorem gsX_X6_expression_9_q3 {NF : Nat} {n7 : Nat} {l4_7 : Int32} {v7 : Nat → Int32} {f7 : Nat → Nat → Int32} (h0 : ¬ (1 ≤ l4_7)) (h1 : gsX_X6_joins_1 NF 2 (v7 2) v7 f7 = 0) : gsX_X6_expression_9_L7 NF (n7 + 1) l4_7 v7 f7 = (1, v7, f7) := by
  simp only [gsX_X6_expression_9_L7, if_neg h0, h1, ite11, ite01, if_true, if_false]
def gsX_X6_expression_8_L6 (NF : Nat) : Nat → (Int32) → (Nat → Int32) → (Nat → Nat → Int32) → Int32 × (Nat → Int32) × (Nat → Nat → Int32)
  | 0, _, _, _ => (0, (fun _ => 0), (fun _ _ => 0))
  | n6 + 1, l4_6, v6, f6 =>
    if 1600 ≤ l4_6 then
      (1, v6, f6)
    else
      if gsX_X6_joins_1 NF 1 (v6 2) v6 f6 = 1 then
        match gsX_X9_advance_1 NF v6 f6 with
        | (v12, f13) =>
          match gsX_X6_expression_9 NF v12 f13 with
          | (r14, v16, f17) =>
            if r14 = 1 then
              match gsX_X4_add_1 NF (v6 2) 0 v16 f17 with
              | (v20, f21) =>
                let t22 : Int32 := l4_6 + 1
                gsX_X6_expression_8_L6 NF n6 t22 v20 f21
            else
              (0, v16, f17)
      else
        (1, v6, f6)
def gsX_X6_expression_8 (NF : Nat) (v : Nat → Int32) (f : Nat → Nat → Int32) : Int32 × (Nat → Int32) × (Nat → Nat → Int32) :=
  match gsX_X6_expression_9 NF v f with
  | (r1, v3, f4) =>
    if r1 = 1 then
      gsX_X6_expression_8_L6 NF (4294967296 + NF) 0 v3 f4
    else
      (0, v3, f4)
theorem gsX_X6_expression_8_q4 {NF : Nat} {v : Nat → Int32} {f : Nat → Nat → Int32} {v3 : Nat → Int32} {f4 : Nat → Nat → Int32} (h0 : gsX_X6_expression_9 NF v f = (1, v3, f4)) : gsX_X6_expression_8 NF v f = gsX_X6_expression_8_L6 NF (4294967296 + NF) 0 v3 f4 := by
  simp only [gsX_X6_expression_8, h0, ite11, ite01, if_true, if_false]
theorem gsX_X6_expression_8_q5 {NF : Nat} {v : Nat → Int32} {f : Nat → Nat → Int32} {v3 : Nat → Int32} {f4 : Nat → Nat → Int32} (h0 : gsX_X6_expression_9 NF v f = (0, v3, f4)) : gsX_X6_expression_8 NF v f = (0, v3, f4) := by
  simp only [gsX_X6_expression_8, h0, ite11, ite01, if_true, if_false]
theorem gsX_X6_expression_8_q0 {NF : Nat} {n6 : Nat} {l4_6 : Int32} {v6 : Nat → Int32} {f6 : Nat → Nat → Int32} (h0 : (1600 ≤ l4_6)) : gsX_X6_expression_8_L6 NF (n6 + 1) l4_6 v6 f6 = (1, v6, f6) := by
  simp only [gsX_X6_expression_8_L6, if_pos h0]
theorem gsX_X6_expression_8_q1 {NF : Nat} {n6 : Nat} {l4_6 : Int32} {v6 : Nat → Int32} {f6 : Nat → Nat → Int32} {v12 : Nat → Int32} {f13 : Nat → Nat → Int32} {v16 : Nat → Int32} {f17 : Nat → Nat → Int32} {v20 : Nat → Int32} {f21 : Nat → Nat → Int32} {t22 : Int32} (h0 : ¬ (1600 ≤ l4_6)) (h1 : gsX_X6_joins_1 NF 1 (v6 2) v6 f6 = 1) (h2 : gsX_X9_advance_1 NF v6 f6 = (v12, f13)) (h3 : gsX_X6_expression_9 NF v12 f13 = (1, v16, f17)) (h5 : gsX_X4_add_1 NF (v6 2) 0 v16 f17 = (v20, f21)) (h6 : t22 = l4_6 + 1) : gsX_X6_expression_8_L6 NF (n6 + 1) l4_6 v6 f6 = gsX_X6_expression_8_L6 NF n6 t22 v20 f21 := by
  subst h6
  simp only [gsX_X6_expression_8_L6, if_neg h0, h1, h2, h3, h5, ite11, ite01, if_true, if_false]
theorem gsX_X6_expression_8_q2 {NF : Nat} {n6 : Nat} {l4_6 : Int32} {v6 : Nat → Int32} {f6 : Nat → Nat → Int32} {v12 : Nat → Int32} {f13 : Nat → Nat → Int32} {v16 : Nat → Int32} {f17 : Nat → Nat → Int32} (h0 : ¬ (1600 ≤ l4_6)) (h1 : gsX_X6_joins_1 NF 1 (v6 2) v6 f6 = 1) (h2 : gsX_X9_advance_1 NF v6 f6 = (v12, f13)) (h3 : gsX_X6_expression_9 NF v12 f13 = (0, v16, f17)) : gsX_X6_expression_8_L6 NF (n6 + 1) l4_6 v6 f6 = (0, v16, f17) := by
  simp only [gsX_X6_expression_8_L6, if_neg h0, h1, h2, h3, ite11, ite01, if_true, if_false]
theorem gsX_X6_expression_8_q3 {NF : Nat} {n6 : Nat} {l4_6 : Int32} {v6 : Nat → Int32} {f6 : Nat → Nat → Int32} (h0 : ¬ (1600 ≤ l4_6)) (h1 : gsX_X6_joins_1 NF 1 (v6 2) v6 f6 = 0) : gsX_X6_expression_8_L6 NF (n6 + 1) l4_6 v6 f6 = (1, v6, f6) := by
  simp only [gsX_X6_expression_8_L6, if_neg h0, h1, ite11, ite01, if_true, if_false]
def gsX_X6_expression_7_L6 (NF : Nat) : Nat → (Int32) → (Nat → Int32) → (Nat → Nat → Int32) → Int32 × (Nat → Int32) × (Nat → Nat → Int32)
  | 0, _, _, _ => (0, (fun _ => 0), (fun _ _ => 0))
  | n6 + 1, l4_6, v6, f6 =>
    if 1600 ≤ l4_6 then
      (1, v6, f6)
    else
      if gsX_X6_joins_1 NF 0 (v6 2) v6 f6 = 1 then
        match gsX_X9_advance_1 NF v6 f6 with
        | (v12, f13) =>
          match gsX_X6_expression_8 NF v12 f13 with
          | (r14, v16, f17) =>
            if r14 = 1 then
              match gsX_X4_add_1 NF (v6 2) 0 v16 f17 with
              | (v20, f21) =>
                let t22 : Int32 := l4_6 + 1
                gsX_X6_expression_7_L6 NF n6 t22 v20 f21
            else
              (0, v16, f17)
      else
        (1, v6, f6)
def gsX_X6_expression_7 (NF : Nat) (v : Nat → Int32) (f : Nat → Nat → Int32) : Int32 × (Nat → Int32) × (Nat → Nat → Int32) :=
  match gsX_X6_expression_8 NF v f with
  | (r1, v3, f4) =>
    if r1 = 1 then
      gsX_X6_expression_7_L6 NF (4294967296 + NF) 0 v3 f4
    else
      (0, v3, f4)
theorem gsX_X6_expression_7_q4 {NF : Nat} {v : Nat → Int32} {f : Nat → Nat → Int32} {v3 : Nat → Int32} {f4 : Nat → Nat → Int32} (h0 : gsX_X6_expression_8 NF v f = (1, v3, f4)) : gsX_X6_expression_7 NF v f = gsX_X6_expression_7_L6 NF (4294967296 + NF) 0 v3 f4 := by
  simp only [gsX_X6_expression_7, h0, ite11, ite01, if_true, if_false]
theorem gsX_X6_expression_7_q5 {NF : Nat} {v : Nat → Int32} {f : Nat → Nat → Int32} {v3 : Nat → Int32} {f4 : Nat → Nat → Int32} (h0 : gsX_X6_expression_8 NF v f = (0, v3, f4)) : gsX_X6_expression_7 NF v f = (0, v3, f4) := by
  simp only [gsX_X6_expression_7, h0, ite11, ite01, if_true, if_false]
theorem gsX_X6_expression_7_q0 {NF : Nat} {n6 : Nat} {l4_6 : Int32} {v6 : Nat → Int32} {f6 : Nat → Nat → Int32} (h0 : (1600 ≤ l4_6)) : gsX_X6_expression_7_L6 NF (n6 + 1) l4_6 v6 f6 = (1, v6, f6) := by
  simp only [gsX_X6_expression_7_L6, if_pos h0]
theorem gsX_X6_expression_7_q1 {NF : Nat} {n6 : Nat} {l4_6 : Int32} {v6 : Nat → Int32} {f6 : Nat → Nat → Int32} {v12 : Nat → Int32} {f13 : Nat → Nat → Int32} {v16 : Nat → Int32} {f17 : Nat → Nat → Int32} {v20 : Nat → Int32} {f21 : Nat → Nat → Int32} {t22 : Int32} (h0 : ¬ (1600 ≤ l4_6)) (h1 : gsX_X6_joins_1 NF 0 (v6 2) v6 f6 = 1) (h2 : gsX_X9_advance_1 NF v6 f6 = (v12, f13)) (h3 : gsX_X6_expression_8 NF v12 f13 = (1, v16, f17)) (h5 : gsX_X4_add_1 NF (v6 2) 0 v16 f17 = (v20, f21)) (h6 : t22 = l4_6 + 1) : gsX_X6_expression_7_L6 NF (n6 + 1) l4_6 v6 f6 = gsX_X6_expression_7_L6 NF n6 t22 v20 f21 := by
  subst h6
  simp only [gsX_X6_expression_7_L6, if_neg h0, h1, h2, h3, h5, ite11, ite01, if_true, if_false]
theorem gsX_X6_expression_7_q2 {NF : Nat} {n6 : Nat} {l4_6 : Int32} {v6 : Nat → Int32} {f6 : Nat → Nat → Int32} {v12 : Nat → Int32} {f13 : Nat → Nat → Int32} {v16 : Nat → Int32} {f17 : Nat → Nat → Int32} (h0 : ¬ (1600 ≤ l4_6)) (h1 : gsX_X6_joins_1 NF 0 (v6 2) v6 f6 = 1) (h2 : gsX_X9_advance_1 NF v6 f6 = (v12, f13)) (h3 : gsX_X6_expression_8 NF v12 f13 = (0, v16, f17)) : gsX_X6_expression_7_L6 NF (n6 + 1) l4_6 v6 f6 = (0, v16, f17) := by
  simp only [gsX_X6_expression_7_L6, if_neg h0, h1, h2, h3, ite11, ite01, if_true, if_false]
theorem gsX_X6_expression_7_q3 {NF : Nat} {n6 : Nat} {l4_6 : Int32} {v6 : Nat → Int32} {f6 : Nat → Nat → Int32} (h0 : ¬ (1600 ≤ l4_6)) (h1 : gsX_X6_joins_1 NF 0 (v6 2) v6 f6 = 0) : gsX_X6_expression_7_L6 NF (n6 + 1) l4_6 v6 f6 = (1, v6, f6) := by
  simp only [gsX_X6_expression_7_L6, if_neg h0, h1, ite11, ite01, if_true, if_false]
def gsX_X6_unit_1 (NF : Nat) (v : Nat → Int32) (f : Nat → Nat → Int32) : Int32 × (Nat → Int32) × (Nat → Nat → Int32) :=
  if (v 2) = 2 then
    if (v 17) < 30 then
      match gsX_X4_add_1 NF (v 2) (v 5) v f with
      | (v4, f5) =>
        let t6 : Int32 := (v4 17) + 1
        match gsX_X9_advance_1 NF (upd v4 17 t6) f5 with
        | (v8, f9) =>
          (1, v8, f9)
    else
      match gsX_X6_refuse_1 NF v f with
      | (r10, v12, f13) =>
        if r10 = 1 then
          (1, v12, f13)
        else
          (0, v12, f13)
  else
    if (v 2) < 116 then
      if (v 2) = 40 then
        if (v 17) < 30 then
          let t23 : Int32 := (v 17) + 1
          match gsX_X9_advance_1 NF (upd v 17 t23) f with
          | (v26, f27) =>
            match stk NF (gsX_X6_expression_7 NF v26 f27) with
            | (r28, v30, f31) =>
              if r28 = 1 then
                match gsX_X6_taken_1 NF 41 v30 f31 with
                | (r33, v35, f36) =>
                  if r33 = 1 then
                    (1, v35, f36)
                  else
                    (0, v35, f36)
              else
                (0, v30, f31)
        else
          match gsX_X6_refuse_1 NF v f with
          | (r38, v40, f41) =>
            if r38 = 1 then
              (1, v40, f41)
            else
              (0, v40, f41)
      else
        match gsX_X6_refuse_1 NF v f with
        | (r17, v19, f20) =>
          if r17 = 1 then
            (1, v19, f20)
          else
            (0, v19, f20)
    else
      if 121 < (v 2) then
        if (v 2) = 40 then
          if (v 17) < 30 then
            let t51 : Int32 := (v 17) + 1
            match gsX_X9_advance_1 NF (upd v 17 t51) f with
            | (v54, f55) =>
              match stk NF (gsX_X6_expression_7 NF v54 f55) with
              | (r56, v58, f59) =>
                if r56 = 1 then
                  match gsX_X6_taken_1 NF 41 v58 f59 with
                  | (r61, v63, f64) =>
                    if r61 = 1 then
                      (1, v63, f64)
                    else
                      (0, v63, f64)
                else
                  (0, v58, f59)
          else
            match gsX_X6_refuse_1 NF v f with
            | (r66, v68, f69) =>
              if r66 = 1 then
                (1, v68, f69)
              else
                (0, v68, f69)
        else
          match gsX_X6_refuse_1 NF v f with
          | (r45, v47, f48) =>
            if r45 = 1 then
              (1, v47, f48)
            else
              (0, v47, f48)
      else
        if (v 17) < 30 then
          match gsX_X4_add_1 NF (v 2) (v 5) v f with
          | (v73, f74) =>
            let t75 : Int32 := (v73 17) + 1
            match gsX_X9_advance_1 NF (upd v73 17 t75) f74 with
            | (v77, f78) =>
              (1, v77, f78)
        else
          match gsX_X6_refuse_1 NF v f with
          | (r79, v81, f82) =>
            if r79 = 1 then
              (1, v81, f82)
            else
              (0, v81, f82)
theorem gsX_X6_unit_1_q0 {NF : Nat} {v : Nat → Int32} {f : Nat → Nat → Int32} {v4 : Nat → Int32} {f5 : Nat → Nat → Int32} {t6 : Int32} {v8 : Nat → Int32} {f9 : Nat → Nat → Int32} (h0 : ((v 2) = 2)) (h1 : ((v 17) < 30)) (h2 : gsX_X4_add_1 NF (v 2) (v 5) v f = (v4, f5)) (h3 : t6 = (v4 17) + 1) (h4 : gsX_X9_advance_1 NF (upd v4 17 t6) f5 = (v8, f9)) : gsX_X6_unit_1 NF v f = (1, v8, f9) := by
  subst h3
  simp only [gsX_X6_unit_1, stk_eq, if_pos h0, if_pos h1, h2, h4]
theorem gsX_X6_unit_1_q1 {NF : Nat} {v : Nat → Int32} {f : Nat → Nat → Int32} {v12 : Nat → Int32} {f13 : Nat → Nat → Int32} (h0 : ((v 2) = 2)) (h1 : ¬ ((v 17) < 30)) (h2 : gsX_X6_refuse_1 NF v f = (1, v12, f13)) : gsX_X6_unit_1 NF v f = (1, v12, f13) := by
  simp only [gsX_X6_unit_1, stk_eq, if_pos h0, if_neg h1, h2, ite11, ite01, if_true, if_false]
theorem gsX_X6_unit_1_q2 {NF : Nat} {v : Nat → Int32} {f : Nat → Nat → Int32} {v12 : Nat → Int32} {f13 : Nat → Nat → Int32} (h0 : ((v 2) = 2)) (h1 : ¬ ((v 17) < 30)) (h2 : gsX_X6_refuse_1 NF v f = (0, v12, f13)) : gsX_X6_unit_1 NF v f = (0, v12, f13) := by
  simp only [gsX_X6_unit_1, stk_eq, if_pos h0, if_neg h1, h2, ite11, ite01, if_true, if_false]
theorem gsX_X6_unit_1_q3 {NF : Nat} {v : Nat → Int32} {f : Nat → Nat → Int32} {v19 : Nat → Int32} {f20 : Nat → Nat → Int32} (h0 : ¬ ((v 2) = 2)) (h1 : ((v 2) < 116)) (h2 : ¬ ((v 2) = 40)) (h3 : gsX_X6_refuse_1 NF v f = (1, v19, f20)) : gsX_X6_unit_1 NF v f = (1, v19, f20) := by
  simp only [gsX_X6_unit_1, stk_eq, if_neg h0, if_pos h1, if_neg h2, h3, ite11, ite01, if_true, if_false]
theorem gsX_X6_unit_1_q4 {NF : Nat} {v : Nat → Int32} {f : Nat → Nat → Int32} {v19 : Nat → Int32} {f20 : Nat → Nat → Int32} (h0 : ¬ ((v 2) = 2)) (h1 : ((v 2) < 116)) (h2 : ¬ ((v 2) = 40)) (h3 : gsX_X6_refuse_1 NF v f = (0, v19, f20)) : gsX_X6_unit_1 NF v f = (0, v19, f20) := by
  simp only [gsX_X6_unit_1, stk_eq, if_neg h0, if_pos h1, if_neg h2, h3, ite11, ite01, if_true, if_false]
theorem gsX_X6_unit_1_q5 {NF : Nat} {v : Nat → Int32} {f : Nat → Nat → Int32} {t23 : Int32} {v26 : Nat → Int32} {f27 : Nat → Nat → Int32} {v30 : Nat → Int32} {f31 : Nat → Nat → Int32} {v35 : Nat → Int32} {f36 : Nat → Nat → Int32} (h0 : ¬ ((v 2) = 2)) (h1 : ((v 2) < 116)) (h2 : ((v 2) = 40)) (h3 : ((v 17) < 30)) (h4 : t23 = (v 17) + 1) (h5 : gsX_X9_advance_1 NF (upd v 17 t23) f = (v26, f27)) (h6 : gsX_X6_expression_7 NF v26 f27 = (1, v30, f31)) (h8 : gsX_X6_taken_1 NF 41 v30 f31 = (1, v35, f36)) : gsX_X6_unit_1 NF v f = (1, v35, f36) := by
  subst h4
  simp only [gsX_X6_unit_1, stk_eq, if_neg h0, if_pos h1, if_pos h2, if_pos h3, h5, h6, h8, ite11, ite01, if_true, if_false]
theorem gsX_X6_unit_1_q6 {NF : Nat} {v : Nat → Int32} {f : Nat → Nat → Int32} {t23 : Int32} {v26 : Nat → Int32} {f27 : Nat → Nat → Int32} {v30 : Nat → Int32} {f31 : Nat → Nat → Int32} {v35 : Nat → Int32} {f36 : Nat → Nat → Int32} (h0 : ¬ ((v 2) = 2)) (h1 : ((v 2) < 116)) (h2 : ((v 2) = 40)) (h3 : ((v 17) < 30)) (h4 : t23 = (v 17) + 1) (h5 : gsX_X9_advance_1 NF (upd v 17 t23) f = (v26, f27)) (h6 : gsX_X6_expression_7 NF v26 f27 = (1, v30, f31)) (h8 : gsX_X6_taken_1 NF 41 v30 f31 = (0, v35, f36)) : gsX_X6_unit_1 NF v f = (0, v35, f36) := by
  subst h4
  simp only [gsX_X6_unit_1, stk_eq, if_neg h0, if_pos h1, if_pos h2, if_pos h3, h5, h6, h8, ite11, ite01, if_true, if_false]
theorem gsX_X6_unit_1_q7 {NF : Nat} {v : Nat → Int32} {f : Nat → Nat → Int32} {t23 : Int32} {v26 : Nat → Int32} {f27 : Nat → Nat → Int32} {v30 : Nat → Int32} {f31 : Nat → Nat → Int32} (h0 : ¬ ((v 2) = 2)) (h1 : ((v 2) < 116)) (h2 : ((v 2) = 40)) (h3 : ((v 17) < 30)) (h4 : t23 = (v 17) + 1) (h5 : gsX_X9_advance_1 NF (upd v 17 t23) f = (v26, f27)) (h6 : gsX_X6_expression_7 NF v26 f27 = (0, v30, f31)) : gsX_X6_unit_1 NF v f = (0, v30, f31) := by
  subst h4
  simp only [gsX_X6_unit_1, stk_eq, if_neg h0, if_pos h1, if_pos h2, if_pos h3, h5, h6, ite11, ite01, if_true, if_false]
theorem gsX_X6_unit_1_q8 {NF : Nat} {v : Nat → Int32} {f : Nat → Nat → Int32} {v40 : Nat → Int32} {f41 : Nat → Nat → Int32} (h0 : ¬ ((v 2) = 2)) (h1 : ((v 2) < 116)) (h2 : ((v 2) = 40)) (h3 : ¬ ((v 17) < 30)) (h4 : gsX_X6_refuse_1 NF v f = (1, v40, f41)) : gsX_X6_unit_1 NF v f = (1, v40, f41) := by
  simp only [gsX_X6_unit_1, stk_eq, if_neg h0, if_pos h1, if_pos h2, if_neg h3, h4, ite11, ite01, if_true, if_false]
theorem gsX_X6_unit_1_q9 {NF : Nat} {v : Nat → Int32} {f : Nat → Nat → Int32} {v40 : Nat → Int32} {f41 : Nat → Nat → Int32} (h0 : ¬ ((v 2) = 2)) (h1 : ((v 2) < 116)) (h2 : ((v 2) = 40)) (h3 : ¬ ((v 17) < 30)) (h4 : gsX_X6_refuse_1 NF v f = (0, v40, f41)) : gsX_X6_unit_1 NF v f = (0, v40, f41) := by
  simp only [gsX_X6_unit_1, stk_eq, if_neg h0, if_pos h1, if_pos h2, if_neg h3, h4, ite11, ite01, if_true, if_false]
theorem gsX_X6_unit_1_q10 {NF : Nat} {v : Nat → Int32} {f : Nat → Nat → Int32} {v47 : Nat → Int32} {f48 : Nat → Nat → Int32} (h0 : ¬ ((v 2) = 2)) (h1 : ¬ ((v 2) < 116)) (h2 : (121 < (v 2))) (h3 : ¬ ((v 2) = 40)) (h4 : gsX_X6_refuse_1 NF v f = (1, v47, f48)) : gsX_X6_unit_1 NF v f = (1, v47, f48) := by
  simp only [gsX_X6_unit_1, stk_eq, if_neg h0, if_neg h1, if_pos h2, if_neg h3, h4, ite11, ite01, if_true, if_false]
theorem gsX_X6_unit_1_q11 {NF : Nat} {v : Nat → Int32} {f : Nat → Nat → Int32} {v47 : Nat → Int32} {f48 : Nat → Nat → Int32} (h0 : ¬ ((v 2) = 2)) (h1 : ¬ ((v 2) < 116)) (h2 : (121 < (v 2))) (h3 : ¬ ((v 2) = 40)) (h4 : gsX_X6_refuse_1 NF v f = (0, v47, f48)) : gsX_X6_unit_1 NF v f = (0, v47, f48) := by
  simp only [gsX_X6_unit_1, stk_eq, if_neg h0, if_neg h1, if_pos h2, if_neg h3, h4, ite11, ite01, if_true, if_false]
theorem gsX_X6_unit_1_q12 {NF : Nat} {v : Nat → Int32} {f : Nat → Nat → Int32} {t51 : Int32} {v54 : Nat → Int32} {f55 : Nat → Nat → Int32} {v58 : Nat → Int32} {f59 : Nat → Nat → Int32} {v63 : Nat → Int32} {f64 : Nat → Nat → Int32} (h0 : ¬ ((v 2) = 2)) (h1 : ¬ ((v 2) < 116)) (h2 : (121 < (v 2))) (h3 : ((v 2) = 40)) (h4 : ((v 17) < 30)) (h5 : t51 = (v 17) + 1) (h6 : gsX_X9_advance_1 NF (upd v 17 t51) f = (v54, f55)) (h7 : gsX_X6_expression_7 NF v54 f55 = (1, v58, f59)) (h9 : gsX_X6_taken_1 NF 41 v58 f59 = (1, v63, f64)) : gsX_X6_unit_1 NF v f = (1, v63, f64) := by
  subst h5
  simp only [gsX_X6_unit_1, stk_eq, if_neg h0, if_neg h1, if_pos h2, if_pos h3, if_pos h4, h6, h7, h9, ite11, ite01, if_true, if_false]
theorem gsX_X6_unit_1_q13 {NF : Nat} {v : Nat → Int32} {f : Nat → Nat → Int32} {t51 : Int32} {v54 : Nat → Int32} {f55 : Nat → Nat → Int32} {v58 : Nat → Int32} {f59 : Nat → Nat → Int32} {v63 : Nat → Int32} {f64 : Nat → Nat → Int32} (h0 : ¬ ((v 2) = 2)) (h1 : ¬ ((v 2) < 116)) (h2 : (121 < (v 2))) (h3 : ((v 2) = 40)) (h4 : ((v 17) < 30)) (h5 : t51 = (v 17) + 1) (h6 : gsX_X9_advance_1 NF (upd v 17 t51) f = (v54, f55)) (h7 : gsX_X6_expression_7 NF v54 f55 = (1, v58, f59)) (h9 : gsX_X6_taken_1 NF 41 v58 f59 = (0, v63, f64)) : gsX_X6_unit_1 NF v f = (0, v63, f64) := by
  subst h5
  simp only [gsX_X6_unit_1, stk_eq, if_neg h0, if_neg h1, if_pos h2, if_pos h3, if_pos h4, h6, h7, h9, ite11, ite01, if_true, if_false]
theorem gsX_X6_unit_1_q14 {NF : Nat} {v : Nat → Int32} {f : Nat → Nat → Int32} {t51 : Int32} {v54 : Nat → Int32} {f55 : Nat → Nat → Int32} {v58 : Nat → Int32} {f59 : Nat → Nat → Int32} (h0 : ¬ ((v 2) = 2)) (h1 : ¬ ((v 2) < 116)) (h2 : (121 < (v 2))) (h3 : ((v 2) = 40)) (h4 : ((v 17) < 30)) (h5 : t51 = (v 17) + 1) (h6 : gsX_X9_advance_1 NF (upd v 17 t51) f = (v54, f55)) (h7 : gsX_X6_expression_7 NF v54 f55 = (0, v58, f59)) : gsX_X6_unit_1 NF v f = (0, v58, f59) := by
  subst h5
  simp only [gsX_X6_unit_1, stk_eq, if_neg h0, if_neg h1, if_pos h2, if_pos h3, if_pos h4, h6, h7, ite11, ite01, if_true, if_false]
theorem gsX_X6_unit_1_q15 {NF : Nat} {v : Nat → Int32} {f : Nat → Nat → Int32} {v68 : Nat → Int32} {f69 : Nat → Nat → Int32} (h0 : ¬ ((v 2) = 2)) (h1 : ¬ ((v 2) < 116)) (h2 : (121 < (v 2))) (h3 : ((v 2) = 40)) (h4 : ¬ ((v 17) < 30)) (h5 : gsX_X6_refuse_1 NF v f = (1, v68, f69)) : gsX_X6_unit_1 NF v f = (1, v68, f69) := by
  simp only [gsX_X6_unit_1, stk_eq, if_neg h0, if_neg h1, if_pos h2, if_pos h3, if_neg h4, h5, ite11, ite01, if_true, if_false]
theorem gsX_X6_unit_1_q16 {NF : Nat} {v : Nat → Int32} {f : Nat → Nat → Int32} {v68 : Nat → Int32} {f69 : Nat → Nat → Int32} (h0 : ¬ ((v 2) = 2)) (h1 : ¬ ((v 2) < 116)) (h2 : (121 < (v 2))) (h3 : ((v 2) = 40)) (h4 : ¬ ((v 17) < 30)) (h5 : gsX_X6_refuse_1 NF v f = (0, v68, f69)) : gsX_X6_unit_1 NF v f = (0, v68, f69) := by
  simp only [gsX_X6_unit_1, stk_eq, if_neg h0, if_neg h1, if_pos h2, if_pos h3, if_neg h4, h5, ite11, ite01, if_true, if_false]
theorem gsX_X6_unit_1_q17 {NF : Nat} {v : Nat → Int32} {f : Nat → Nat → Int32} {v73 : Nat → Int32} {f74 : Nat → Nat → Int32} {t75 : Int32} {v77 : Nat → Int32} {f78 : Nat → Nat → Int32} (h0 : ¬ ((v 2) = 2)) (h1 : ¬ ((v 2) < 116)) (h2 : ¬ (121 < (v 2))) (h3 : ((v 17) < 30)) (h4 : gsX_X4_add_1 NF (v 2) (v 5) v f = (v73, f74)) (h5 : t75 = (v73 17) + 1) (h6 : gsX_X9_advance_1 NF (upd v73 17 t75) f74 = (v77, f78)) : gsX_X6_unit_1 NF v f = (1, v77, f78) := by
  subst h5
  simp only [gsX_X6_unit_1, stk_eq, if_neg h0, if_neg h1, if_neg h2, if_pos h3, h4, h6]
theorem gsX_X6_unit_1_q18 {NF : Nat} {v : Nat → Int32} {f : Nat → Nat → Int32} {v81 : Nat → Int32} {f82 : Nat → Nat → Int32} (h0 : ¬ ((v 2) = 2)) (h1 : ¬ ((v 2) < 116)) (h2 : ¬ (121 < (v 2))) (h3 : ¬ ((v 17) < 30)) (h4 : gsX_X6_refuse_1 NF v f = (1, v81, f82)) : gsX_X6_unit_1 NF v f = (1, v81, f82) := by
  simp only [gsX_X6_unit_1, stk_eq, if_neg h0, if_neg h1, if_neg h2, if_neg h3, h4, ite11, ite01, if_true, if_false]
theorem gsX_X6_unit_1_q19 {NF : Nat} {v : Nat → Int32} {f : Nat → Nat → Int32} {v81 : Nat → Int32} {f82 : Nat → Nat → Int32} (h0 : ¬ ((v 2) = 2)) (h1 : ¬ ((v 2) < 116)) (h2 : ¬ (121 < (v 2))) (h3 : ¬ ((v 17) < 30)) (h4 : gsX_X6_refuse_1 NF v f = (0, v81, f82)) : gsX_X6_unit_1 NF v f = (0, v81, f82) := by
  simp only [gsX_X6_unit_1, stk_eq, if_neg h0, if_neg h1, if_neg h2, if_neg h3, h4, ite11, ite01, if_true, if_false]
def gsX_X6_expression_6 (NF : Nat) (v : Nat → Int32) (f : Nat → Nat → Int32) : Int32 × (Nat → Int32) × (Nat → Nat → Int32) :=
  match gsX_X6_unit_1 NF v f with
  | (r1, v3, f4) =>
    if r1 = 1 then
      (1, v3, f4)
    else
      (0, v3, f4)
theorem gsX_X6_expression_6_q0 {NF : Nat} {v : Nat → Int32} {f : Nat → Nat → Int32} {v3 : Nat → Int32} {f4 : Nat → Nat → Int32} (h0 : gsX_X6_unit_1 NF v f = (1, v3, f4)) : gsX_X6_expression_6 NF v f = (1, v3, f4) := by
  simp only [gsX_X6_expression_6, h0, ite11, ite01, if_true, if_false]
theorem gsX_X6_expression_6_q1 {NF : Nat} {v : Nat → Int32} {f : Nat → Nat → Int32} {v3 : Nat → Int32} {f4 : Nat → Nat → Int32} (h0 : gsX_X6_unit_1 NF v f = (0, v3, f4)) : gsX_X6_expression_6 NF v f = (0, v3, f4) := by
  simp only [gsX_X6_expression_6, h0, ite11, ite01, if_true, if_false]
def gsX_X6_expression_5_L6 (NF : Nat) : Nat → (Int32) → (Nat → Int32) → (Nat → Nat → Int32) → Int32 × (Nat → Int32) × (Nat → Nat → Int32)
  | 0, _, _, _ => (0, (fun _ => 0), (fun _ _ => 0))
  | n6 + 1, l4_6, v6, f6 =>
    if 1600 ≤ l4_6 then
      (1, v6, f6)
    else
      if gsX_X6_joins_1 NF 4 (v6 2) v6 f6 = 1 then
        match gsX_X9_advance_1 NF v6 f6 with
        | (v12, f13) =>
          match gsX_X6_expression_6 NF v12 f13 with
          | (r14, v16, f17) =>
            if r14 = 1 then
              match gsX_X4_add_1 NF (v6 2) 0 v16 f17 with
              | (v20, f21) =>
                let t22 : Int32 := l4_6 + 1
                gsX_X6_expression_5_L6 NF n6 t22 v20 f21
            else
              (0, v16, f17)
      else
        (1, v6, f6)
def gsX_X6_expression_5 (NF : Nat) (v : Nat → Int32) (f : Nat → Nat → Int32) : Int32 × (Nat → Int32) × (Nat → Nat → Int32) :=
  match gsX_X6_expression_6 NF v f with
  | (r1, v3, f4) =>
    if r1 = 1 then
      gsX_X6_expression_5_L6 NF (4294967296 + NF) 0 v3 f4
    else
      (0, v3, f4)
theorem gsX_X6_expression_5_q4 {NF : Nat} {v : Nat → Int32} {f : Nat → Nat → Int32} {v3 : Nat → Int32} {f4 : Nat → Nat → Int32} (h0 : gsX_X6_expression_6 NF v f = (1, v3, f4)) : gsX_X6_expression_5 NF v f = gsX_X6_expression_5_L6 NF (4294967296 + NF) 0 v3 f4 := by
  simp only [gsX_X6_expression_5, h0, ite11, ite01, if_true, if_false]
theorem gsX_X6_expression_5_q5 {NF : Nat} {v : Nat → Int32} {f : Nat → Nat → Int32} {v3 : Nat → Int32} {f4 : Nat → Nat → Int32} (h0 : gsX_X6_expression_6 NF v f = (0, v3, f4)) : gsX_X6_expression_5 NF v f = (0, v3, f4) := by
  simp only [gsX_X6_expression_5, h0, ite11, ite01, if_true, if_false]
theorem gsX_X6_expression_5_q0 {NF : Nat} {n6 : Nat} {l4_6 : Int32} {v6 : Nat → Int32} {f6 : Nat → Nat → Int32} (h0 : (1600 ≤ l4_6)) : gsX_X6_expression_5_L6 NF (n6 + 1) l4_6 v6 f6 = (1, v6, f6) := by
  simp only [gsX_X6_expression_5_L6, if_pos h0]
theorem gsX_X6_expression_5_q1 {NF : Nat} {n6 : Nat} {l4_6 : Int32} {v6 : Nat → Int32} {f6 : Nat → Nat → Int32} {v12 : Nat → Int32} {f13 : Nat → Nat → Int32} {v16 : Nat → Int32} {f17 : Nat → Nat → Int32} {v20 : Nat → Int32} {f21 : Nat → Nat → Int32} {t22 : Int32} (h0 : ¬ (1600 ≤ l4_6)) (h1 : gsX_X6_joins_1 NF 4 (v6 2) v6 f6 = 1) (h2 : gsX_X9_advance_1 NF v6 f6 = (v12, f13)) (h3 : gsX_X6_expression_6 NF v12 f13 = (1, v16, f17)) (h5 : gsX_X4_add_1 NF (v6 2) 0 v16 f17 = (v20, f21)) (h6 : t22 = l4_6 + 1) : gsX_X6_expression_5_L6 NF (n6 + 1) l4_6 v6 f6 = gsX_X6_expression_5_L6 NF n6 t22 v20 f21 := by
  subst h6
  simp only [gsX_X6_expression_5_L6, if_neg h0, h1, h2, h3, h5, ite11, ite01, if_true, if_false]
theorem gsX_X6_expression_5_q2 {NF : Nat} {n6 : Nat} {l4_6 : Int32} {v6 : Nat → Int32} {f6 : Nat → Nat → Int32} {v12 : Nat → Int32} {f13 : Nat → Nat → Int32} {v16 : Nat → Int32} {f17 : Nat → Nat → Int32} (h0 : ¬ (1600 ≤ l4_6)) (h1 : gsX_X6_joins_1 NF 4 (v6 2) v6 f6 = 1) (h2 : gsX_X9_advance_1 NF v6 f6 = (v12, f13)) (h3 : gsX_X6_expression_6 NF v12 f13 = (0, v16, f17)) : gsX_X6_expression_5_L6 NF (n6 + 1) l4_6 v6 f6 = (0, v16, f17) := by
  simp only [gsX_X6_expression_5_L6, if_neg h0, h1, h2, h3, ite11, ite01, if_true, if_false]
theorem gsX_X6_expression_5_q3 {NF : Nat} {n6 : Nat} {l4_6 : Int32} {v6 : Nat → Int32} {f6 : Nat → Nat → Int32} (h0 : ¬ (1600 ≤ l4_6)) (h1 : gsX_X6_joins_1 NF 4 (v6 2) v6 f6 = 0) : gsX_X6_expression_5_L6 NF (n6 + 1) l4_6 v6 f6 = (1, v6, f6) := by
  simp only [gsX_X6_expression_5_L6, if_neg h0, h1, ite11, ite01, if_true, if_false]
def gsX_X6_expression_4_L6 (NF : Nat) : Nat → (Int32) → (Nat → Int32) → (Nat → Nat → Int32) → Int32 × (Nat → Int32) × (Nat → Nat → Int32)
  | 0, _, _, _ => (0, (fun _ => 0), (fun _ _ => 0))
  | n6 + 1, l4_6, v6, f6 =>
    if 1600 ≤ l4_6 then
      (1, v6, f6)
    else
      if gsX_X6_joins_1 NF 3 (v6 2) v6 f6 = 1 then
        match gsX_X9_advance_1 NF v6 f6 with
        | (v12, f13) =>
          match gsX_X6_expression_5 NF v12 f13 with
          | (r14, v16, f17) =>
            if r14 = 1 then
              match gsX_X4_add_1 NF (v6 2) 0 v16 f17 with
              | (v20, f21) =>
                let t22 : Int32 := l4_6 + 1
                gsX_X6_expression_4_L6 NF n6 t22 v20 f21
            else
              (0, v16, f17)
      else
        (1, v6, f6)
def gsX_X6_expression_4 (NF : Nat) (v : Nat → Int32) (f : Nat → Nat → Int32) : Int32 × (Nat → Int32) × (Nat → Nat → Int32) :=
  match gsX_X6_expression_5 NF v f with
  | (r1, v3, f4) =>
    if r1 = 1 then
      gsX_X6_expression_4_L6 NF (4294967296 + NF) 0 v3 f4
    else
      (0, v3, f4)
theorem gsX_X6_expression_4_q4 {NF : Nat} {v : Nat → Int32} {f : Nat → Nat → Int32} {v3 : Nat → Int32} {f4 : Nat → Nat → Int32} (h0 : gsX_X6_expression_5 NF v f = (1, v3, f4)) : gsX_X6_expression_4 NF v f = gsX_X6_expression_4_L6 NF (4294967296 + NF) 0 v3 f4 := by
  simp only [gsX_X6_expression_4, h0, ite11, ite01, if_true, if_false]
theorem gsX_X6_expression_4_q5 {NF : Nat} {v : Nat → Int32} {f : Nat → Nat → Int32} {v3 : Nat → Int32} {f4 : Nat → Nat → Int32} (h0 : gsX_X6_expression_5 NF v f = (0, v3, f4)) : gsX_X6_expression_4 NF v f = (0, v3, f4) := by
  simp only [gsX_X6_expression_4, h0, ite11, ite01, if_true, if_false]
theorem gsX_X6_expression_4_q0 {NF : Nat} {n6 : Nat} {l4_6 : Int32} {v6 : Nat → Int32} {f6 : Nat → Nat → Int32} (h0 : (1600 ≤ l4_6)) : gsX_X6_expression_4_L6 NF (n6 + 1) l4_6 v6 f6 = (1, v6, f6) := by
  simp only [gsX_X6_expression_4_L6, if_pos h0]
theorem gsX_X6_expression_4_q1 {NF : Nat} {n6 : Nat} {l4_6 : Int32} {v6 : Nat → Int32} {f6 : Nat → Nat → Int32} {v12 : Nat → Int32} {f13 : Nat → Nat → Int32} {v16 : Nat → Int32} {f17 : Nat → Nat → Int32} {v20 : Nat → Int32} {f21 : Nat → Nat → Int32} {t22 : Int32} (h0 : ¬ (1600 ≤ l4_6)) (h1 : gsX_X6_joins_1 NF 3 (v6 2) v6 f6 = 1) (h2 : gsX_X9_advance_1 NF v6 f6 = (v12, f13)) (h3 : gsX_X6_expression_5 NF v12 f13 = (1, v16, f17)) (h5 : gsX_X4_add_1 NF (v6 2) 0 v16 f17 = (v20, f21)) (h6 : t22 = l4_6 + 1) : gsX_X6_expression_4_L6 NF (n6 + 1) l4_6 v6 f6 = gsX_X6_expression_4_L6 NF n6 t22 v20 f21 := by
  subst h6
  simp only [gsX_X6_expression_4_L6, if_neg h0, h1, h2, h3, h5, ite11, ite01, if_true, if_false]
theorem gsX_X6_expression_4_q2 {NF : Nat} {n6 : Nat} {l4_6 : Int32} {v6 : Nat → Int32} {f6 : Nat → Nat → Int32} {v12 : Nat → Int32} {f13 : Nat → Nat → Int32} {v16 : Nat → Int32} {f17 : Nat → Nat → Int32} (h0 : ¬ (1600 ≤ l4_6)) (h1 : gsX_X6_joins_1 NF 3 (v6 2) v6 f6 = 1) (h2 : gsX_X9_advance_1 NF v6 f6 = (v12, f13)) (h3 : gsX_X6_expression_5 NF v12 f13 = (0, v16, f17)) : gsX_X6_expression_4_L6 NF (n6 + 1) l4_6 v6 f6 = (0, v16, f17) := by
  simp only [gsX_X6_expression_4_L6, if_neg h0, h1, h2, h3, ite11, ite01, if_true, if_false]
theorem gsX_X6_expression_4_q3 {NF : Nat} {n6 : Nat} {l4_6 : Int32} {v6 : Nat → Int32} {f6 : Nat → Nat → Int32} (h0 : ¬ (1600 ≤ l4_6)) (h1 : gsX_X6_joins_1 NF 3 (v6 2) v6 f6 = 0) : gsX_X6_expression_4_L6 NF (n6 + 1) l4_6 v6 f6 = (1, v6, f6) := by
  simp only [gsX_X6_expression_4_L6, if_neg h0, h1, ite11, ite01, if_true, if_false]
def gsX_X6_negation_8 (NF : Nat) (v : Nat → Int32) (f : Nat → Nat → Int32) : Int32 × (Nat → Int32) × (Nat → Nat → Int32) :=
  match gsX_X9_advance_1 NF v f with
  | (v2, f3) =>
    match stk NF (gsX_X6_expression_9 NF v2 f3) with
    | (r4, v6, f7) =>
      if r4 = 1 then
        match gsX_X4_add_1 NF 115 0 v6 f7 with
        | (v10, f11) =>
          (1, v10, f11)
      else
        (0, v6, f7)
theorem gsX_X6_negation_8_q0 {NF : Nat} {v : Nat → Int32} {f : Nat → Nat → Int32} {v2 : Nat → Int32} {f3 : Nat → Nat → Int32} {v6 : Nat → Int32} {f7 : Nat → Nat → Int32} {v10 : Nat → Int32} {f11 : Nat → Nat → Int32} (h0 : gsX_X9_advance_1 NF v f = (v2, f3)) (h1 : gsX_X6_expression_9 NF v2 f3 = (1, v6, f7)) (h3 : gsX_X4_add_1 NF 115 0 v6 f7 = (v10, f11)) : gsX_X6_negation_8 NF v f = (1, v10, f11) := by
  simp only [gsX_X6_negation_8, stk_eq, h0, h1, h3, ite11, ite01, if_true, if_false]
theorem gsX_X6_negation_8_q1 {NF : Nat} {v : Nat → Int32} {f : Nat → Nat → Int32} {v2 : Nat → Int32} {f3 : Nat → Nat → Int32} {v6 : Nat → Int32} {f7 : Nat → Nat → Int32} (h0 : gsX_X9_advance_1 NF v f = (v2, f3)) (h1 : gsX_X6_expression_9 NF v2 f3 = (0, v6, f7)) : gsX_X6_negation_8 NF v f = (0, v6, f7) := by
  simp only [gsX_X6_negation_8, stk_eq, h0, h1, ite11, ite01, if_true, if_false]
def gsX_X6_expression_3_L7 (NF : Nat) : Nat → (Int32) → (Nat → Int32) → (Nat → Nat → Int32) → Int32 × (Nat → Int32) × (Nat → Nat → Int32)
  | 0, _, _, _ => (0, (fun _ => 0), (fun _ _ => 0))
  | n7 + 1, l4_7, v7, f7 =>
    if 1 ≤ l4_7 then
      (1, v7, f7)
    else
      if gsX_X6_joins_1 NF 2 (v7 2) v7 f7 = 1 then
        match gsX_X9_advance_1 NF v7 f7 with
        | (v13, f14) =>
          match gsX_X6_expression_4 NF v13 f14 with
          | (r15, v17, f18) =>
            if r15 = 1 then
              match gsX_X4_add_1 NF (v7 2) 0 v17 f18 with
              | (v21, f22) =>
                let t23 : Int32 := l4_7 + 1
                gsX_X6_expression_3_L7 NF n7 t23 v21 f22
            else
              (0, v17, f18)
      else
        (1, v7, f7)
def gsX_X6_expression_3 (NF : Nat) (v : Nat → Int32) (f : Nat → Nat → Int32) : Int32 × (Nat → Int32) × (Nat → Nat → Int32) :=
  if (v 2) = 115 then
    match gsX_X6_negation_8 NF v f with
    | (r26, v28, f29) =>
      if r26 = 1 then
        (1, v28, f29)
      else
        (0, v28, f29)
  else
    match gsX_X6_expression_4 NF v f with
    | (r2, v4, f5) =>
      if r2 = 1 then
        gsX_X6_expression_3_L7 NF (4294967296 + NF) 0 v4 f5
      else
        (0, v4, f5)
theorem gsX_X6_expression_3_q4 {NF : Nat} {v : Nat → Int32} {f : Nat → Nat → Int32} {v4 : Nat → Int32} {f5 : Nat → Nat → Int32} (h0 : ¬ ((v 2) = 115)) (h1 : gsX_X6_expression_4 NF v f = (1, v4, f5)) : gsX_X6_expression_3 NF v f = gsX_X6_expression_3_L7 NF (4294967296 + NF) 0 v4 f5 := by
  simp only [gsX_X6_expression_3, if_neg h0, h1, ite11, ite01, if_true, if_false]
theorem gsX_X6_expression_3_q5 {NF : Nat} {v : Nat → Int32} {f : Nat → Nat → Int32} {v4 : Nat → Int32} {f5 : Nat → Nat → Int32} (h0 : ¬ ((v 2) = 115)) (h1 : gsX_X6_expression_4 NF v f = (0, v4, f5)) : gsX_X6_expression_3 NF v f = (0, v4, f5) := by
  simp only [gsX_X6_expression_3, if_neg h0, h1, ite11, ite01, if_true, if_false]
theorem gsX_X6_expression_3_q6 {NF : Nat} {v : Nat → Int32} {f : Nat → Nat → Int32} {v28 : Nat → Int32} {f29 : Nat → Nat → Int32} (h0 : ((v 2) = 115)) (h1 : gsX_X6_negation_8 NF v f = (1, v28, f29)) : gsX_X6_expression_3 NF v f = (1, v28, f29) := by
  simp only [gsX_X6_expression_3, if_pos h0, h1, ite11, ite01, if_true, if_false]
theorem gsX_X6_expression_3_q7 {NF : Nat} {v : Nat → Int32} {f : Nat → Nat → Int32} {v28 : Nat → Int32} {f29 : Nat → Nat → Int32} (h0 : ((v 2) = 115)) (h1 : gsX_X6_negation_8 NF v f = (0, v28, f29)) : gsX_X6_expression_3 NF v f = (0, v28, f29) := by
  simp only [gsX_X6_expression_3, if_pos h0, h1, ite11, ite01, if_true, if_false]
theorem gsX_X6_expression_3_q0 {NF : Nat} {n7 : Nat} {l4_7 : Int32} {v7 : Nat → Int32} {f7 : Nat → Nat → Int32} (h0 : (1 ≤ l4_7)) : gsX_X6_expression_3_L7 NF (n7 + 1) l4_7 v7 f7 = (1, v7, f7) := by
  simp only [gsX_X6_expression_3_L7, if_pos h0]
theorem gsX_X6_expression_3_q1 {NF : Nat} {n7 : Nat} {l4_7 : Int32} {v7 : Nat → Int32} {f7 : Nat → Nat → Int32} {v13 : Nat → Int32} {f14 : Nat → Nat → Int32} {v17 : Nat → Int32} {f18 : Nat → Nat → Int32} {v21 : Nat → Int32} {f22 : Nat → Nat → Int32} {t23 : Int32} (h0 : ¬ (1 ≤ l4_7)) (h1 : gsX_X6_joins_1 NF 2 (v7 2) v7 f7 = 1) (h2 : gsX_X9_advance_1 NF v7 f7 = (v13, f14)) (h3 : gsX_X6_expression_4 NF v13 f14 = (1, v17, f18)) (h5 : gsX_X4_add_1 NF (v7 2) 0 v17 f18 = (v21, f22)) (h6 : t23 = l4_7 + 1) : gsX_X6_expression_3_L7 NF (n7 + 1) l4_7 v7 f7 = gsX_X6_expression_3_L7 NF n7 t23 v21 f22 := by
  subst h6
  simp only [gsX_X6_expression_3_L7, if_neg h0, h1, h2, h3, h5, ite11, ite01, if_true, if_false]
theorem gsX_X6_expression_3_q2 {NF : Nat} {n7 : Nat} {l4_7 : Int32} {v7 : Nat → Int32} {f7 : Nat → Nat → Int32} {v13 : Nat → Int32} {f14 : Nat → Nat → Int32} {v17 : Nat → Int32} {f18 : Nat → Nat → Int32} (h0 : ¬ (1 ≤ l4_7)) (h1 : gsX_X6_joins_1 NF 2 (v7 2) v7 f7 = 1) (h2 : gsX_X9_advance_1 NF v7 f7 = (v13, f14)) (h3 : gsX_X6_expression_4 NF v13 f14 = (0, v17, f18)) : gsX_X6_expression_3_L7 NF (n7 + 1) l4_7 v7 f7 = (0, v17, f18) := by
  simp only [gsX_X6_expression_3_L7, if_neg h0, h1, h2, h3, ite11, ite01, if_true, if_false]
theorem gsX_X6_expression_3_q3 {NF : Nat} {n7 : Nat} {l4_7 : Int32} {v7 : Nat → Int32} {f7 : Nat → Nat → Int32} (h0 : ¬ (1 ≤ l4_7)) (h1 : gsX_X6_joins_1 NF 2 (v7 2) v7 f7 = 0) : gsX_X6_expression_3_L7 NF (n7 + 1) l4_7 v7 f7 = (1, v7, f7) := by
  simp only [gsX_X6_expression_3_L7, if_neg h0, h1, ite11, ite01, if_true, if_false]
def gsX_X6_expression_2_L6 (NF : Nat) : Nat → (Int32) → (Nat → Int32) → (Nat → Nat → Int32) → Int32 × (Nat → Int32) × (Nat → Nat → Int32)
  | 0, _, _, _ => (0, (fun _ => 0), (fun _ _ => 0))
  | n6 + 1, l4_6, v6, f6 =>
    if 1600 ≤ l4_6 then
      (1, v6, f6)
    else
      if gsX_X6_joins_1 NF 1 (v6 2) v6 f6 = 1 then
        match gsX_X9_advance_1 NF v6 f6 with
        | (v12, f13) =>
          match gsX_X6_expression_3 NF v12 f13 with
          | (r14, v16, f17) =>
            if r14 = 1 then
              match gsX_X4_add_1 NF (v6 2) 0 v16 f17 with
              | (v20, f21) =>
                let t22 : Int32 := l4_6 + 1
                gsX_X6_expression_2_L6 NF n6 t22 v20 f21
            else
              (0, v16, f17)
      else
        (1, v6, f6)
def gsX_X6_expression_2 (NF : Nat) (v : Nat → Int32) (f : Nat → Nat → Int32) : Int32 × (Nat → Int32) × (Nat → Nat → Int32) :=
  match gsX_X6_expression_3 NF v f with
  | (r1, v3, f4) =>
    if r1 = 1 then
      gsX_X6_expression_2_L6 NF (4294967296 + NF) 0 v3 f4
    else
      (0, v3, f4)
theorem gsX_X6_expression_2_q4 {NF : Nat} {v : Nat → Int32} {f : Nat → Nat → Int32} {v3 : Nat → Int32} {f4 : Nat → Nat → Int32} (h0 : gsX_X6_expression_3 NF v f = (1, v3, f4)) : gsX_X6_expression_2 NF v f = gsX_X6_expression_2_L6 NF (4294967296 + NF) 0 v3 f4 := by
  simp only [gsX_X6_expression_2, h0, ite11, ite01, if_true, if_false]
theorem gsX_X6_expression_2_q5 {NF : Nat} {v : Nat → Int32} {f : Nat → Nat → Int32} {v3 : Nat → Int32} {f4 : Nat → Nat → Int32} (h0 : gsX_X6_expression_3 NF v f = (0, v3, f4)) : gsX_X6_expression_2 NF v f = (0, v3, f4) := by
  simp only [gsX_X6_expression_2, h0, ite11, ite01, if_true, if_false]
theorem gsX_X6_expression_2_q0 {NF : Nat} {n6 : Nat} {l4_6 : Int32} {v6 : Nat → Int32} {f6 : Nat → Nat → Int32} (h0 : (1600 ≤ l4_6)) : gsX_X6_expression_2_L6 NF (n6 + 1) l4_6 v6 f6 = (1, v6, f6) := by
  simp only [gsX_X6_expression_2_L6, if_pos h0]
theorem gsX_X6_expression_2_q1 {NF : Nat} {n6 : Nat} {l4_6 : Int32} {v6 : Nat → Int32} {f6 : Nat → Nat → Int32} {v12 : Nat → Int32} {f13 : Nat → Nat → Int32} {v16 : Nat → Int32} {f17 : Nat → Nat → Int32} {v20 : Nat → Int32} {f21 : Nat → Nat → Int32} {t22 : Int32} (h0 : ¬ (1600 ≤ l4_6)) (h1 : gsX_X6_joins_1 NF 1 (v6 2) v6 f6 = 1) (h2 : gsX_X9_advance_1 NF v6 f6 = (v12, f13)) (h3 : gsX_X6_expression_3 NF v12 f13 = (1, v16, f17)) (h5 : gsX_X4_add_1 NF (v6 2) 0 v16 f17 = (v20, f21)) (h6 : t22 = l4_6 + 1) : gsX_X6_expression_2_L6 NF (n6 + 1) l4_6 v6 f6 = gsX_X6_expression_2_L6 NF n6 t22 v20 f21 := by
  subst h6
  simp only [gsX_X6_expression_2_L6, if_neg h0, h1, h2, h3, h5, ite11, ite01, if_true, if_false]
theorem gsX_X6_expression_2_q2 {NF : Nat} {n6 : Nat} {l4_6 : Int32} {v6 : Nat → Int32} {f6 : Nat → Nat → Int32} {v12 : Nat → Int32} {f13 : Nat → Nat → Int32} {v16 : Nat → Int32} {f17 : Nat → Nat → Int32} (h0 : ¬ (1600 ≤ l4_6)) (h1 : gsX_X6_joins_1 NF 1 (v6 2) v6 f6 = 1) (h2 : gsX_X9_advance_1 NF v6 f6 = (v12, f13)) (h3 : gsX_X6_expression_3 NF v12 f13 = (0, v16, f17)) : gsX_X6_expression_2_L6 NF (n6 + 1) l4_6 v6 f6 = (0, v16, f17) := by
  simp only [gsX_X6_expression_2_L6, if_neg h0, h1, h2, h3, ite11, ite01, if_true, if_false]
theorem gsX_X6_expression_2_q3 {NF : Nat} {n6 : Nat} {l4_6 : Int32} {v6 : Nat → Int32} {f6 : Nat → Nat → Int32} (h0 : ¬ (1600 ≤ l4_6)) (h1 : gsX_X6_joins_1 NF 1 (v6 2) v6 f6 = 0) : gsX_X6_expression_2_L6 NF (n6 + 1) l4_6 v6 f6 = (1, v6, f6) := by
  simp only [gsX_X6_expression_2_L6, if_neg h0, h1, ite11, ite01, if_true, if_false]
def gsX_X6_expression_1_L6 (NF : Nat) : Nat → (Int32) → (Nat → Int32) → (Nat → Nat → Int32) → Int32 × (Nat → Int32) × (Nat → Nat → Int32)
  | 0, _, _, _ => (0, (fun _ => 0), (fun _ _ => 0))
  | n6 + 1, l4_6, v6, f6 =>
    if 1600 ≤ l4_6 then
      (1, v6, f6)
    else
      if gsX_X6_joins_1 NF 0 (v6 2) v6 f6 = 1 then
        match gsX_X9_advance_1 NF v6 f6 with
        | (v12, f13) =>
          match gsX_X6_expression_2 NF v12 f13 with
          | (r14, v16, f17) =>
            if r14 = 1 then
              match gsX_X4_add_1 NF (v6 2) 0 v16 f17 with
              | (v20, f21) =>
                let t22 : Int32 := l4_6 + 1
                gsX_X6_expression_1_L6 NF n6 t22 v20 f21
            else
              (0, v16, f17)
      else
        (1, v6, f6)
def gsX_X6_expression_1 (NF : Nat) (v : Nat → Int32) (f : Nat → Nat → Int32) : Int32 × (Nat → Int32) × (Nat → Nat → Int32) :=
  match gsX_X6_expression_2 NF v f with
  | (r1, v3, f4) =>
    if r1 = 1 then
      gsX_X6_expression_1_L6 NF (4294967296 + NF) 0 v3 f4
    else
      (0, v3, f4)
theorem gsX_X6_expression_1_q4 {NF : Nat} {v : Nat → Int32} {f : Nat → Nat → Int32} {v3 : Nat → Int32} {f4 : Nat → Nat → Int32} (h0 : gsX_X6_expression_2 NF v f = (1, v3, f4)) : gsX_X6_expression_1 NF v f = gsX_X6_expression_1_L6 NF (4294967296 + NF) 0 v3 f4 := by
  simp only [gsX_X6_expression_1, h0, ite11, ite01, if_true, if_false]
theorem gsX_X6_expression_1_q5 {NF : Nat} {v : Nat → Int32} {f : Nat → Nat → Int32} {v3 : Nat → Int32} {f4 : Nat → Nat → Int32} (h0 : gsX_X6_expression_2 NF v f = (0, v3, f4)) : gsX_X6_expression_1 NF v f = (0, v3, f4) := by
  simp only [gsX_X6_expression_1, h0, ite11, ite01, if_true, if_false]
theorem gsX_X6_expression_1_q0 {NF : Nat} {n6 : Nat} {l4_6 : Int32} {v6 : Nat → Int32} {f6 : Nat → Nat → Int32} (h0 : (1600 ≤ l4_6)) : gsX_X6_expression_1_L6 NF (n6 + 1) l4_6 v6 f6 = (1, v6, f6) := by
  simp only [gsX_X6_expression_1_L6, if_pos h0]
theorem gsX_X6_expression_1_q1 {NF : Nat} {n6 : Nat} {l4_6 : Int32} {v6 : Nat → Int32} {f6 : Nat → Nat → Int32} {v12 : Nat → Int32} {f13 : Nat → Nat → Int32} {v16 : Nat → Int32} {f17 : Nat → Nat → Int32} {v20 : Nat → Int32} {f21 : Nat → Nat → Int32} {t22 : Int32} (h0 : ¬ (1600 ≤ l4_6)) (h1 : gsX_X6_joins_1 NF 0 (v6 2) v6 f6 = 1) (h2 : gsX_X9_advance_1 NF v6 f6 = (v12, f13)) (h3 : gsX_X6_expression_2 NF v12 f13 = (1, v16, f17)) (h5 : gsX_X4_add_1 NF (v6 2) 0 v16 f17 = (v20, f21)) (h6 : t22 = l4_6 + 1) : gsX_X6_expression_1_L6 NF (n6 + 1) l4_6 v6 f6 = gsX_X6_expression_1_L6 NF n6 t22 v20 f21 := by
  subst h6
  simp only [gsX_X6_expression_1_L6, if_neg h0, h1, h2, h3, h5, ite11, ite01, if_true, if_false]
theorem gsX_X6_expression_1_q2 {NF : Nat} {n6 : Nat} {l4_6 : Int32} {v6 : Nat → Int32} {f6 : Nat → Nat → Int32} {v12 : Nat → Int32} {f13 : Nat → Nat → Int32} {v16 : Nat → Int32} {f17 : Nat → Nat → Int32} (h0 : ¬ (1600 ≤ l4_6)) (h1 : gsX_X6_joins_1 NF 0 (v6 2) v6 f6 = 1) (h2 : gsX_X9_advance_1 NF v6 f6 = (v12, f13)) (h3 : gsX_X6_expression_2 NF v12 f13 = (0, v16, f17)) : gsX_X6_expression_1_L6 NF (n6 + 1) l4_6 v6 f6 = (0, v16, f17) := by
  simp only [gsX_X6_expression_1_L6, if_neg h0, h1, h2, h3, ite11, ite01, if_true, if_false]
theorem gsX_X6_expression_1_q3 {NF : Nat} {n6 : Nat} {l4_6 : Int32} {v6 : Nat → Int32} {f6 : Nat → Nat → Int32} (h0 : ¬ (1600 ≤ l4_6)) (h1 : gsX_X6_joins_1 NF 0 (v6 2) v6 f6 = 0) : gsX_X6_expression_1_L6 NF (n6 + 1) l4_6 v6 f6 = (1, v6, f6) := by
  simp only [gsX_X6_expression_1_L6, if_neg h0, h1, ite11, ite01, if_true, if_false]
def gsX_X7_set_1 (NF : Nat) (p1 : Int32) (p2 : Int32) (v : Nat → Int32) (f : Nat → Nat → Int32) : (Nat → Int32) × (Nat → Nat → Int32) :=
  if p1 = 104 then
    ((upd v 11 p2), f)
  else
    if p1 = 105 then
      ((upd v 12 p2), f)
    else
      if p1 = 106 then
        ((upd v 13 p2), f)
      else
        if p1 = 107 then
          ((upd v 14 p2), f)
        else
          ((upd v 15 p2), f)
theorem gsX_X7_set_1_q0 {NF : Nat} {p1 : Int32} {p2 : Int32} {v : Nat → Int32} {f : Nat → Nat → Int32} (h0 : (p1 = 104)) : gsX_X7_set_1 NF p1 p2 v f = ((upd v 11 p2), f) := by
  simp only [gsX_X7_set_1, if_pos h0]
theorem gsX_X7_set_1_q1 {NF : Nat} {p1 : Int32} {p2 : Int32} {v : Nat → Int32} {f : Nat → Nat → Int32} (h0 : ¬ (p1 = 104)) (h1 : (p1 = 105)) : gsX_X7_set_1 NF p1 p2 v f = ((upd v 12 p2), f) := by
  simp only [gsX_X7_set_1, if_neg h0, if_pos h1]
theorem gsX_X7_set_1_q2 {NF : Nat} {p1 : Int32} {p2 : Int32} {v : Nat → Int32} {f : Nat → Nat → Int32} (h0 : ¬ (p1 = 104)) (h1 : ¬ (p1 = 105)) (h2 : (p1 = 106)) : gsX_X7_set_1 NF p1 p2 v f = ((upd v 13 p2), f) := by
  simp only [gsX_X7_set_1, if_neg h0, if_neg h1, if_pos h2]
theorem gsX_X7_set_1_q3 {NF : Nat} {p1 : Int32} {p2 : Int32} {v : Nat → Int32} {f : Nat → Nat → Int32} (h0 : ¬ (p1 = 104)) (h1 : ¬ (p1 = 105)) (h2 : ¬ (p1 = 106)) (h3 : (p1 = 107)) : gsX_X7_set_1 NF p1 p2 v f = ((upd v 14 p2), f) := by
  simp only [gsX_X7_set_1, if_neg h0, if_neg h1, if_neg h2, if_pos h3]
theorem gsX_X7_set_1_q4 {NF : Nat} {p1 : Int32} {p2 : Int32} {v : Nat → Int32} {f : Nat → Nat → Int32} (h0 : ¬ (p1 = 104)) (h1 : ¬ (p1 = 105)) (h2 : ¬ (p1 = 106)) (h3 : ¬ (p1 = 107)) : gsX_X7_set_1 NF p1 p2 v f = ((upd v 15 p2), f) := by
  simp only [gsX_X7_set_1, if_neg h0, if_neg h1, if_neg h2, if_neg h3]
def gsX_X6_settingLine_1 (NF : Nat) (p1 : Int32) (v : Nat → Int32) (f : Nat → Nat → Int32) : Int32 × (Nat → Int32) × (Nat → Nat → Int32) :=
  match gsX_X6_opened_1 NF (v 2) v f with
  | (r1, v3, f4) =>
    if r1 = 1 then
      match gsX_X6_numbered_1 NF p1 v3 f4 with
      | (r6, v8, f9) =>
        if 0 ≤ r6 then
          match gsX_X7_set_1 NF (v 2) r6 v8 f9 with
          | (v12, f13) =>
            (1, v12, f13)
        else
          (0, v8, f9)
    else
      (0, v3, f4)
theorem gsX_X6_settingLine_1_q0 {NF : Nat} {p1 : Int32} {v : Nat → Int32} {f : Nat → Nat → Int32} {v3 : Nat → Int32} {f4 : Nat → Nat → Int32} {r6 : Int32} {v8 : Nat → Int32} {f9 : Nat → Nat → Int32} {v12 : Nat → Int32} {f13 : Nat → Nat → Int32} (h0 : gsX_X6_opened_1 NF (v 2) v f = (1, v3, f4)) (h2 : gsX_X6_numbered_1 NF p1 v3 f4 = (r6, v8, f9)) (h3 : (0 ≤ r6)) (h4 : gsX_X7_set_1 NF (v 2) r6 v8 f9 = (v12, f13)) : gsX_X6_settingLine_1 NF p1 v f = (1, v12, f13) := by
  simp only [gsX_X6_settingLine_1, h0, h2, if_pos h3, h4, ite11, ite01, if_true, if_false]
theorem gsX_X6_settingLine_1_q1 {NF : Nat} {p1 : Int32} {v : Nat → Int32} {f : Nat → Nat → Int32} {v3 : Nat → Int32} {f4 : Nat → Nat → Int32} {r6 : Int32} {v8 : Nat → Int32} {f9 : Nat → Nat → Int32} (h0 : gsX_X6_opened_1 NF (v 2) v f = (1, v3, f4)) (h2 : gsX_X6_numbered_1 NF p1 v3 f4 = (r6, v8, f9)) (h3 : ¬ (0 ≤ r6)) : gsX_X6_settingLine_1 NF p1 v f = (0, v8, f9) := by
  simp only [gsX_X6_settingLine_1, h0, h2, if_neg h3, ite11, ite01, if_true, if_false]
theorem gsX_X6_settingLine_1_q2 {NF : Nat} {p1 : Int32} {v : Nat → Int32} {f : Nat → Nat → Int32} {v3 : Nat → Int32} {f4 : Nat → Nat → Int32} (h0 : gsX_X6_opened_1 NF (v 2) v f = (0, v3, f4)) : gsX_X6_settingLine_1 NF p1 v f = (0, v3, f4) := by
  simp only [gsX_X6_settingLine_1, h0, ite11, ite01, if_true, if_false]
def gsX_X6_line_1 (NF : Nat) (v : Nat → Int32) (f : Nat → Nat → Int32) : Int32 × (Nat → Int32) × (Nat → Nat → Int32) :=
  if (v 2) = 101 then
    match gsX_X6_manLine_1 NF v f with
    | (r2, v4, f5) =>
      if r2 = 1 then
        match gsX_X6_closing_1 NF v4 f5 with
        | (r7, v9, f10) =>
          if r7 = 1 then
            (1, v9, f10)
          else
            (0, v9, f10)
      else
        (0, v4, f5)
  else
    if (v 2) = 102 then
      match gsX_X6_coatLine_1 NF v f with
      | (r13, v15, f16) =>
        if r13 = 1 then
          match gsX_X6_closing_1 NF v15 f16 with
          | (r18, v20, f21) =>
            if r18 = 1 then
              (1, v20, f21)
            else
              (0, v20, f21)
        else
          (0, v15, f16)
    else
      if (v 2) = 103 then
        match gsX_X6_opened_1 NF 103 v f with
        | (r24, v26, f27) =>
          if r24 = 1 then
            match gsX_X6_expression_1 NF v26 f27 with
            | (r29, v31, f32) =>
              if r29 = 1 then
                match gsX_X6_closing_1 NF v31 f32 with
                | (r34, v36, f37) =>
                  if r34 = 1 then
                    (1, v36, f37)
                  else
                    (0, v36, f37)
              else
                (0, v31, f32)
          else
            (0, v26, f27)
      else
        if (v 2) = 104 then
          match gsX_X6_settingLine_1 NF 999 v f with
          | (r40, v42, f43) =>
            if r40 = 1 then
              match gsX_X6_closing_1 NF v42 f43 with
              | (r45, v47, f48) =>
                if r45 = 1 then
                  (1, v47, f48)
                else
                  (0, v47, f48)
            else
              (0, v42, f43)
        else
          if (v 2) = 105 then
            match gsX_X6_settingLine_1 NF 999 v f with
            | (r51, v53, f54) =>
              if r51 = 1 then
                match gsX_X6_closing_1 NF v53 f54 with
                | (r56, v58, f59) =>
                  if r56 = 1 then
                    (1, v58, f59)
                  else
                    (0, v58, f59)
              else
                (0, v53, f54)
          else
            if (v 2) = 106 then
              match gsX_X6_settingLine_1 NF 99 v f with
              | (r62, v64, f65) =>
                if r62 = 1 then
                  match gsX_X6_closing_1 NF v64 f65 with
                  | (r67, v69, f70) =>
                    if r67 = 1 then
                      (1, v69, f70)
                    else
                      (0, v69, f70)
                else
                  (0, v64, f65)
            else
              if (v 2) = 107 then
                match gsX_X6_settingLine_1 NF 100 v f with
                | (r73, v75, f76) =>
                  if r73 = 1 then
                    match gsX_X6_closing_1 NF v75 f76 with
                    | (r78, v80, f81) =>
                      if r78 = 1 then
                        (1, v80, f81)
                      else
                        (0, v80, f81)
                  else
                    (0, v75, f76)
              else
                if (v 2) = 108 then
                  match gsX_X6_settingLine_1 NF 999 v f with
                  | (r84, v86, f87) =>
                    if r84 = 1 then
                      match gsX_X6_closing_1 NF v86 f87 with
                      | (r89, v91, f92) =>
                        if r89 = 1 then
                          (1, v91, f92)
                        else
                          (0, v91, f92)
                    else
                      (0, v86, f87)
                else
                  match gsX_X6_refuse_1 NF v f with
                  | (r94, v96, f97) =>
                    if r94 = 1 then
                      (1, v96, f97)
                    else
                      (0, v96, f97)
theorem gsX_X6_line_1_q0 {NF : Nat} {v : Nat → Int32} {f : Nat → Nat → Int32} {v4 : Nat → Int32} {f5 : Nat → Nat → Int32} {v9 : Nat → Int32} {f10 : Nat → Nat → Int32} (h0 : ((v 2) = 101)) (h1 : gsX_X6_manLine_1 NF v f = (1, v4, f5)) (h3 : gsX_X6_closing_1 NF v4 f5 = (1, v9, f10)) : gsX_X6_line_1 NF v f = (1, v9, f10) := by
  simp only [gsX_X6_line_1, if_pos h0, h1, h3, ite11, ite01, if_true, if_false]
theorem gsX_X6_line_1_q1 {NF : Nat} {v : Nat → Int32} {f : Nat → Nat → Int32} {v4 : Nat → Int32} {f5 : Nat → Nat → Int32} {v9 : Nat → Int32} {f10 : Nat → Nat → Int32} (h0 : ((v 2) = 101)) (h1 : gsX_X6_manLine_1 NF v f = (1, v4, f5)) (h3 : gsX_X6_closing_1 NF v4 f5 = (0, v9, f10)) : gsX_X6_line_1 NF v f = (0, v9, f10) := by
  simp only [gsX_X6_line_1, if_pos h0, h1, h3, ite11, ite01, if_true, if_false]
theorem gsX_X6_line_1_q2 {NF : Nat} {v : Nat → Int32} {f : Nat → Nat → Int32} {v4 : Nat → Int32} {f5 : Nat → Nat → Int32} (h0 : ((v 2) = 101)) (h1 : gsX_X6_manLine_1 NF v f = (0, v4, f5)) : gsX_X6_line_1 NF v f = (0, v4, f5) := by
  simp only [gsX_X6_line_1, if_pos h0, h1, ite11, ite01, if_true, if_false]
theorem gsX_X6_line_1_q3 {NF : Nat} {v : Nat → Int32} {f : Nat → Nat → Int32} {v15 : Nat → Int32} {f16 : Nat → Nat → Int32} {v20 : Nat → Int32} {f21 : Nat → Nat → Int32} (h0 : ¬ ((v 2) = 101)) (h1 : ((v 2) = 102)) (h2 : gsX_X6_coatLine_1 NF v f = (1, v15, f16)) (h4 : gsX_X6_closing_1 NF v15 f16 = (1, v20, f21)) : gsX_X6_line_1 NF v f = (1, v20, f21) := by
  simp only [gsX_X6_line_1, if_neg h0, if_pos h1, h2, h4, ite11, ite01, if_true, if_false]
theorem gsX_X6_line_1_q4 {NF : Nat} {v : Nat → Int32} {f : Nat → Nat → Int32} {v15 : Nat → Int32} {f16 : Nat → Nat → Int32} {v20 : Nat → Int32} {f21 : Nat → Nat → Int32} (h0 : ¬ ((v 2) = 101)) (h1 : ((v 2) = 102)) (h2 : gsX_X6_coatLine_1 NF v f = (1, v15, f16)) (h4 : gsX_X6_closing_1 NF v15 f16 = (0, v20, f21)) : gsX_X6_line_1 NF v f = (0, v20, f21) := by
  simp only [gsX_X6_line_1, if_neg h0, if_pos h1, h2, h4, ite11, ite01, if_true, if_false]
theorem gsX_X6_line_1_q5 {NF : Nat} {v : Nat → Int32} {f : Nat → Nat → Int32} {v15 : Nat → Int32} {f16 : Nat → Nat → Int32} (h0 : ¬ ((v 2) = 101)) (h1 : ((v 2) = 102)) (h2 : gsX_X6_coatLine_1 NF v f = (0, v15, f16)) : gsX_X6_line_1 NF v f = (0, v15, f16) := by
  simp only [gsX_X6_line_1, if_neg h0, if_pos h1, h2, ite11, ite01, if_true, if_false]
theorem gsX_X6_line_1_q6 {NF : Nat} {v : Nat → Int32} {f : Nat → Nat → Int32} {v26 : Nat → Int32} {f27 : Nat → Nat → Int32} {v31 : Nat → Int32} {f32 : Nat → Nat → Int32} {v36 : Nat → Int32} {f37 : Nat → Nat → Int32} (h0 : ¬ ((v 2) = 101)) (h1 : ¬ ((v 2) = 102)) (h2 : ((v 2) = 103)) (h3 : gsX_X6_opened_1 NF 103 v f = (1, v26, f27)) (h5 : gsX_X6_expression_1 NF v26 f27 = (1, v31, f32)) (h7 : gsX_X6_closing_1 NF v31 f32 = (1, v36, f37)) : gsX_X6_line_1 NF v f = (1, v36, f37) := by
  simp only [gsX_X6_line_1, if_neg h0, if_neg h1, if_pos h2, h3, h5, h7, ite11, ite01, if_true, if_false]
theorem gsX_X6_line_1_q7 {NF : Nat} {v : Nat → Int32} {f : Nat → Nat → Int32} {v26 : Nat → Int32} {f27 : Nat → Nat → Int32} {v31 : Nat → Int32} {f32 : Nat → Nat → Int32} {v36 : Nat → Int32} {f37 : Nat → Nat → Int32} (h0 : ¬ ((v 2) = 101)) (h1 : ¬ ((v 2) = 102)) (h2 : ((v 2) = 103)) (h3 : gsX_X6_opened_1 NF 103 v f = (1, v26, f27)) (h5 : gsX_X6_expression_1 NF v26 f27 = (1, v31, f32)) (h7 : gsX_X6_closing_1 NF v31 f32 = (0, v36, f37)) : gsX_X6_line_1 NF v f = (0, v36, f37) := by
  simp only [gsX_X6_line_1, if_neg h0, if_neg h1, if_pos h2, h3, h5, h7, ite11, ite01, if_true, if_false]
theorem gsX_X6_line_1_q8 {NF : Nat} {v : Nat → Int32} {f : Nat → Nat → Int32} {v26 : Nat → Int32} {f27 : Nat → Nat → Int32} {v31 : Nat → Int32} {f32 : Nat → Nat → Int32} (h0 : ¬ ((v 2) = 101)) (h1 : ¬ ((v 2) = 102)) (h2 : ((v 2) = 103)) (h3 : gsX_X6_opened_1 NF 103 v f = (1, v26, f27)) (h5 : gsX_X6_expression_1 NF v26 f27 = (0, v31, f32)) : gsX_X6_line_1 NF v f = (0, v31, f32) := by
  simp only [gsX_X6_line_1, if_neg h0, if_neg h1, if_pos h2, h3, h5, ite11, ite01, if_true, if_false]
theorem gsX_X6_line_1_q9 {NF : Nat} {v : Nat → Int32} {f : Nat → Nat → Int32} {v26 : Nat → Int32} {f27 : Nat → Nat → Int32} (h0 : ¬ ((v 2) = 101)) (h1 : ¬ ((v 2) = 102)) (h2 : ((v 2) = 103)) (h3 : gsX_X6_opened_1 NF 103 v f = (0, v26, f27)) : gsX_X6_line_1 NF v f = (0, v26, f27) := by
  simp only [gsX_X6_line_1, if_neg h0, if_neg h1, if_pos h2, h3, ite11, ite01, if_true, if_false]
theorem gsX_X6_line_1_q10 {NF : Nat} {v : Nat → Int32} {f : Nat → Nat → Int32} {v42 : Nat → Int32} {f43 : Nat → Nat → Int32} {v47 : Nat → Int32} {f48 : Nat → Nat → Int32} (h0 : ¬ ((v 2) = 101)) (h1 : ¬ ((v 2) = 102)) (h2 : ¬ ((v 2) = 103)) (h3 : ((v 2) = 104)) (h4 : gsX_X6_settingLine_1 NF 999 v f = (1, v42, f43)) (h6 : gsX_X6_closing_1 NF v42 f43 = (1, v47, f48)) : gsX_X6_line_1 NF v f = (1, v47, f48) := by
  simp only [gsX_X6_line_1, if_neg h0, if_neg h1, if_neg h2, if_pos h3, h4, h6, ite11, ite01, if_true, if_false]
theorem gsX_X6_line_1_q11 {NF : Nat} {v : Nat → Int32} {f : Nat → Nat → Int32} {v42 : Nat → Int32} {f43 : Nat → Nat → Int32} {v47 : Nat → Int32} {f48 : Nat → Nat → Int32} (h0 : ¬ ((v 2) = 101)) (h1 : ¬ ((v 2) = 102)) (h2 : ¬ ((v 2) = 103)) (h3 : ((v 2) = 104)) (h4 : gsX_X6_settingLine_1 NF 999 v f = (1, v42, f43)) (h6 : gsX_X6_closing_1 NF v42 f43 = (0, v47, f48)) : gsX_X6_line_1 NF v f = (0, v47, f48) := by
  simp only [gsX_X6_line_1, if_neg h0, if_neg h1, if_neg h2, if_pos h3, h4, h6, ite11, ite01, if_true, if_false]
theorem gsX_X6_line_1_q12 {NF : Nat} {v : Nat → Int32} {f : Nat → Nat → Int32} {v42 : Nat → Int32} {f43 : Nat → Nat → Int32} (h0 : ¬ ((v 2) = 101)) (h1 : ¬ ((v 2) = 102)) (h2 : ¬ ((v 2) = 103)) (h3 : ((v 2) = 104)) (h4 : gsX_X6_settingLine_1 NF 999 v f = (0, v42, f43)) : gsX_X6_line_1 NF v f = (0, v42, f43) := by
  simp only [gsX_X6_line_1, if_neg h0, if_neg h1, if_neg h2, if_pos h3, h4, ite11, ite01, if_true, if_false]
theorem gsX_X6_line_1_q13 {NF : Nat} {v : Nat → Int32} {f : Nat → Nat → Int32} {v53 : Nat → Int32} {f54 : Nat → Nat → Int32} {v58 : Nat → Int32} {f59 : Nat → Nat → Int32} (h0 : ¬ ((v 2) = 101)) (h1 : ¬ ((v 2) = 102)) (h2 : ¬ ((v 2) = 103)) (h3 : ¬ ((v 2) = 104)) (h4 : ((v 2) = 105)) (h5 : gsX_X6_settingLine_1 NF 999 v f = (1, v53, f54)) (h7 : gsX_X6_closing_1 NF v53 f54 = (1, v58, f59)) : gsX_X6_line_1 NF v f = (1, v58, f59) := by
  simp only [gsX_X6_line_1, if_neg h0, if_neg h1, if_neg h2, if_neg h3, if_pos h4, h5, h7, ite11, ite01, if_true, if_false]
theorem gsX_X6_line_1_q14 {NF : Nat} {v : Nat → Int32} {f : Nat → Nat → Int32} {v53 : Nat → Int32} {f54 : Nat → Nat → Int32} {v58 : Nat → Int32} {f59 : Nat → Nat → Int32} (h0 : ¬ ((v 2) = 101)) (h1 : ¬ ((v 2) = 102)) (h2 : ¬ ((v 2) = 103)) (h3 : ¬ ((v 2) = 104)) (h4 : ((v 2) = 105)) (h5 : gsX_X6_settingLine_1 NF 999 v f = (1, v53, f54)) (h7 : gsX_X6_closing_1 NF v53 f54 = (0, v58, f59)) : gsX_X6_line_1 NF v f = (0, v58, f59) := by
  simp only [gsX_X6_line_1, if_neg h0, if_neg h1, if_neg h2, if_neg h3, if_pos h4, h5, h7, ite11, ite01, if_true, if_false]
theorem gsX_X6_line_1_q15 {NF : Nat} {v : Nat → Int32} {f : Nat → Nat → Int32} {v53 : Nat → Int32} {f54 : Nat → Nat → Int32} (h0 : ¬ ((v 2) = 101)) (h1 : ¬ ((v 2) = 102)) (h2 : ¬ ((v 2) = 103)) (h3 : ¬ ((v 2) = 104)) (h4 : ((v 2) = 105)) (h5 : gsX_X6_settingLine_1 NF 999 v f = (0, v53, f54)) : gsX_X6_line_1 NF v f = (0, v53, f54) := by
  simp only [gsX_X6_line_1, if_neg h0, if_neg h1, if_neg h2, if_neg h3, if_pos h4, h5, ite11, ite01, if_true, if_false]
theorem gsX_X6_line_1_q16 {NF : Nat} {v : Nat → Int32} {f : Nat → Nat → Int32} {v64 : Nat → Int32} {f65 : Nat → Nat → Int32} {v69 : Nat → Int32} {f70 : Nat → Nat → Int32} (h0 : ¬ ((v 2) = 101)) (h1 : ¬ ((v 2) = 102)) (h2 : ¬ ((v 2) = 103)) (h3 : ¬ ((v 2) = 104)) (h4 : ¬ ((v 2) = 105)) (h5 : ((v 2) = 106)) (h6 : gsX_X6_settingLine_1 NF 99 v f = (1, v64, f65)) (h8 : gsX_X6_closing_1 NF v64 f65 = (1, v69, f70)) : gsX_X6_line_1 NF v f = (1, v69, f70) := by
  simp only [gsX_X6_line_1, if_neg h0, if_neg h1, if_neg h2, if_neg h3, if_neg h4, if_pos h5, h6, h8, ite11, ite01, if_true, if_false]
theorem gsX_X6_line_1_q17 {NF : Nat} {v : Nat → Int32} {f : Nat → Nat → Int32} {v64 : Nat → Int32} {f65 : Nat → Nat → Int32} {v69 : Nat → Int32} {f70 : Nat → Nat → Int32} (h0 : ¬ ((v 2) = 101)) (h1 : ¬ ((v 2) = 102)) (h2 : ¬ ((v 2) = 103)) (h3 : ¬ ((v 2) = 104)) (h4 : ¬ ((v 2) = 105)) (h5 : ((v 2) = 106)) (h6 : gsX_X6_settingLine_1 NF 99 v f = (1, v64, f65)) (h8 : gsX_X6_closing_1 NF v64 f65 = (0, v69, f70)) : gsX_X6_line_1 NF v f = (0, v69, f70) := by
  simp only [gsX_X6_line_1, if_neg h0, if_neg h1, if_neg h2, if_neg h3, if_neg h4, if_pos h5, h6, h8, ite11, ite01, if_true, if_false]
theorem gsX_X6_line_1_q18 {NF : Nat} {v : Nat → Int32} {f : Nat → Nat → Int32} {v64 : Nat → Int32} {f65 : Nat → Nat → Int32} (h0 : ¬ ((v 2) = 101)) (h1 : ¬ ((v 2) = 102)) (h2 : ¬ ((v 2) = 103)) (h3 : ¬ ((v 2) = 104)) (h4 : ¬ ((v 2) = 105)) (h5 : ((v 2) = 106)) (h6 : gsX_X6_settingLine_1 NF 99 v f = (0, v64, f65)) : gsX_X6_line_1 NF v f = (0, v64, f65) := by
  simp only [gsX_X6_line_1, if_neg h0, if_neg h1, if_neg h2, if_neg h3, if_neg h4, if_pos h5, h6, ite11, ite01, if_true, if_false]
theorem gsX_X6_line_1_q19 {NF : Nat} {v : Nat → Int32} {f : Nat → Nat → Int32} {v75 : Nat → Int32} {f76 : Nat → Nat → Int32} {v80 : Nat → Int32} {f81 : Nat → Nat → Int32} (h0 : ¬ ((v 2) = 101)) (h1 : ¬ ((v 2) = 102)) (h2 : ¬ ((v 2) = 103)) (h3 : ¬ ((v 2) = 104)) (h4 : ¬ ((v 2) = 105)) (h5 : ¬ ((v 2) = 106)) (h6 : ((v 2) = 107)) (h7 : gsX_X6_settingLine_1 NF 100 v f = (1, v75, f76)) (h9 : gsX_X6_closing_1 NF v75 f76 = (1, v80, f81)) : gsX_X6_line_1 NF v f = (1, v80, f81) := by
  simp only [gsX_X6_line_1, if_neg h0, if_neg h1, if_neg h2, if_neg h3, if_neg h4, if_neg h5, if_pos h6, h7, h9, ite11, ite01, if_true, if_false]
theorem gsX_X6_line_1_q20 {NF : Nat} {v : Nat → Int32} {f : Nat → Nat → Int32} {v75 : Nat → Int32} {f76 : Nat → Nat → Int32} {v80 : Nat → Int32} {f81 : Nat → Nat → Int32} (h0 : ¬ ((v 2) = 101)) (h1 : ¬ ((v 2) = 102)) (h2 : ¬ ((v 2) = 103)) (h3 : ¬ ((v 2) = 104)) (h4 : ¬ ((v 2) = 105)) (h5 : ¬ ((v 2) = 106)) (h6 : ((v 2) = 107)) (h7 : gsX_X6_settingLine_1 NF 100 v f = (1, v75, f76)) (h9 : gsX_X6_closing_1 NF v75 f76 = (0, v80, f81)) : gsX_X6_line_1 NF v f = (0, v80, f81) := by
  simp only [gsX_X6_line_1, if_neg h0, if_neg h1, if_neg h2, if_neg h3, if_neg h4, if_neg h5, if_pos h6, h7, h9, ite11, ite01, if_true, if_false]
theorem gsX_X6_line_1_q21 {NF : Nat} {v : Nat → Int32} {f : Nat → Nat → Int32} {v75 : Nat → Int32} {f76 : Nat → Nat → Int32} (h0 : ¬ ((v 2) = 101)) (h1 : ¬ ((v 2) = 102)) (h2 : ¬ ((v 2) = 103)) (h3 : ¬ ((v 2) = 104)) (h4 : ¬ ((v 2) = 105)) (h5 : ¬ ((v 2) = 106)) (h6 : ((v 2) = 107)) (h7 : gsX_X6_settingLine_1 NF 100 v f = (0, v75, f76)) : gsX_X6_line_1 NF v f = (0, v75, f76) := by
  simp only [gsX_X6_line_1, if_neg h0, if_neg h1, if_neg h2, if_neg h3, if_neg h4, if_neg h5, if_pos h6, h7, ite11, ite01, if_true, if_false]
theorem gsX_X6_line_1_q22 {NF : Nat} {v : Nat → Int32} {f : Nat → Nat → Int32} {v86 : Nat → Int32} {f87 : Nat → Nat → Int32} {v91 : Nat → Int32} {f92 : Nat → Nat → Int32} (h0 : ¬ ((v 2) = 101)) (h1 : ¬ ((v 2) = 102)) (h2 : ¬ ((v 2) = 103)) (h3 : ¬ ((v 2) = 104)) (h4 : ¬ ((v 2) = 105)) (h5 : ¬ ((v 2) = 106)) (h6 : ¬ ((v 2) = 107)) (h7 : ((v 2) = 108)) (h8 : gsX_X6_settingLine_1 NF 999 v f = (1, v86, f87)) (h10 : gsX_X6_closing_1 NF v86 f87 = (1, v91, f92)) : gsX_X6_line_1 NF v f = (1, v91, f92) := by
  simp only [gsX_X6_line_1, if_neg h0, if_neg h1, if_neg h2, if_neg h3, if_neg h4, if_neg h5, if_neg h6, if_pos h7, h8, h10, ite11, ite01, if_true, if_false]
theorem gsX_X6_line_1_q23 {NF : Nat} {v : Nat → Int32} {f : Nat → Nat → Int32} {v86 : Nat → Int32} {f87 : Nat → Nat → Int32} {v91 : Nat → Int32} {f92 : Nat → Nat → Int32} (h0 : ¬ ((v 2) = 101)) (h1 : ¬ ((v 2) = 102)) (h2 : ¬ ((v 2) = 103)) (h3 : ¬ ((v 2) = 104)) (h4 : ¬ ((v 2) = 105)) (h5 : ¬ ((v 2) = 106)) (h6 : ¬ ((v 2) = 107)) (h7 : ((v 2) = 108)) (h8 : gsX_X6_settingLine_1 NF 999 v f = (1, v86, f87)) (h10 : gsX_X6_closing_1 NF v86 f87 = (0, v91, f92)) : gsX_X6_line_1 NF v f = (0, v91, f92) := by
  simp only [gsX_X6_line_1, if_neg h0, if_neg h1, if_neg h2, if_neg h3, if_neg h4, if_neg h5, if_neg h6, if_pos h7, h8, h10, ite11, ite01, if_true, if_false]
theorem gsX_X6_line_1_q24 {NF : Nat} {v : Nat → Int32} {f : Nat → Nat → Int32} {v86 : Nat → Int32} {f87 : Nat → Nat → Int32} (h0 : ¬ ((v 2) = 101)) (h1 : ¬ ((v 2) = 102)) (h2 : ¬ ((v 2) = 103)) (h3 : ¬ ((v 2) = 104)) (h4 : ¬ ((v 2) = 105)) (h5 : ¬ ((v 2) = 106)) (h6 : ¬ ((v 2) = 107)) (h7 : ((v 2) = 108)) (h8 : gsX_X6_settingLine_1 NF 999 v f = (0, v86, f87)) : gsX_X6_line_1 NF v f = (0, v86, f87) := by
  simp only [gsX_X6_line_1, if_neg h0, if_neg h1, if_neg h2, if_neg h3, if_neg h4, if_neg h5, if_neg h6, if_pos h7, h8, ite11, ite01, if_true, if_false]
theorem gsX_X6_line_1_q25 {NF : Nat} {v : Nat → Int32} {f : Nat → Nat → Int32} {v96 : Nat → Int32} {f97 : Nat → Nat → Int32} (h0 : ¬ ((v 2) = 101)) (h1 : ¬ ((v 2) = 102)) (h2 : ¬ ((v 2) = 103)) (h3 : ¬ ((v 2) = 104)) (h4 : ¬ ((v 2) = 105)) (h5 : ¬ ((v 2) = 106)) (h6 : ¬ ((v 2) = 107)) (h7 : ¬ ((v 2) = 108)) (h8 : gsX_X6_refuse_1 NF v f = (1, v96, f97)) : gsX_X6_line_1 NF v f = (1, v96, f97) := by
  simp only [gsX_X6_line_1, if_neg h0, if_neg h1, if_neg h2, if_neg h3, if_neg h4, if_neg h5, if_neg h6, if_neg h7, h8, ite11, ite01, if_true, if_false]
theorem gsX_X6_line_1_q26 {NF : Nat} {v : Nat → Int32} {f : Nat → Nat → Int32} {v96 : Nat → Int32} {f97 : Nat → Nat → Int32} (h0 : ¬ ((v 2) = 101)) (h1 : ¬ ((v 2) = 102)) (h2 : ¬ ((v 2) = 103)) (h3 : ¬ ((v 2) = 104)) (h4 : ¬ ((v 2) = 105)) (h5 : ¬ ((v 2) = 106)) (h6 : ¬ ((v 2) = 107)) (h7 : ¬ ((v 2) = 108)) (h8 : gsX_X6_refuse_1 NF v f = (0, v96, f97)) : gsX_X6_line_1 NF v f = (0, v96, f97) := by
  simp only [gsX_X6_line_1, if_neg h0, if_neg h1, if_neg h2, if_neg h3, if_neg h4, if_neg h5, if_neg h6, if_neg h7, h8, ite11, ite01, if_true, if_false]
def gsX_X6_read_1_L7 (NF : Nat) : Nat → (Int32) → (Nat → Int32) → (Nat → Nat → Int32) → Int32 × (Nat → Int32) × (Nat → Nat → Int32)
  | 0, _, _, _ => (0, (fun _ => 0), (fun _ _ => 0))
  | n7 + 1, l1_7, v7, f7 =>
    if 1600 ≤ l1_7 then
      (1, v7, f7)
    else
      if (v7 2) = 0 then
        (1, v7, f7)
      else
        match gsX_X6_line_1 NF v7 f7 with
        | (r10, v12, f13) =>
          if r10 = 1 then
            let t15 : Int32 := l1_7 + 1
            gsX_X6_read_1_L7 NF n7 t15 v12 f13
          else
            (0, v12, f13)
def gsX_X6_read_1 (NF : Nat) (v : Nat → Int32) (f : Nat → Nat → Int32) : Int32 × (Nat → Int32) × (Nat → Nat → Int32) :=
  match gsX_X7_clear_1 NF v f with
  | (v2, f3) =>
    match gsX_X9_rewind_1 NF (upd (upd (upd v2 6 0) 7 0) 8 (-1)) f3 with
    | (v5, f6) =>
      gsX_X6_read_1_L7 NF (4294967296 + NF) 0 v5 f6
theorem gsX_X6_read_1_q4 {NF : Nat} {v : Nat → Int32} {f : Nat → Nat → Int32} {v2 : Nat → Int32} {f3 : Nat → Nat → Int32} {v5 : Nat → Int32} {f6 : Nat → Nat → Int32} (h0 : gsX_X7_clear_1 NF v f = (v2, f3)) (h1 : gsX_X9_rewind_1 NF (upd (upd (upd v2 6 0) 7 0) 8 (-1)) f3 = (v5, f6)) : gsX_X6_read_1 NF v f = gsX_X6_read_1_L7 NF (4294967296 + NF) 0 v5 f6 := by
  simp only [gsX_X6_read_1, h0, h1]
theorem gsX_X6_read_1_q0 {NF : Nat} {n7 : Nat} {l1_7 : Int32} {v7 : Nat → Int32} {f7 : Nat → Nat → Int32} (h0 : (1600 ≤ l1_7)) : gsX_X6_read_1_L7 NF (n7 + 1) l1_7 v7 f7 = (1, v7, f7) := by
  simp only [gsX_X6_read_1_L7, if_pos h0]
theorem gsX_X6_read_1_q1 {NF : Nat} {n7 : Nat} {l1_7 : Int32} {v7 : Nat → Int32} {f7 : Nat → Nat → Int32} (h0 : ¬ (1600 ≤ l1_7)) (h1 : ((v7 2) = 0)) : gsX_X6_read_1_L7 NF (n7 + 1) l1_7 v7 f7 = (1, v7, f7) := by
  simp only [gsX_X6_read_1_L7, if_neg h0, if_pos h1]
theorem gsX_X6_read_1_q2 {NF : Nat} {n7 : Nat} {l1_7 : Int32} {v7 : Nat → Int32} {f7 : Nat → Nat → Int32} {v12 : Nat → Int32} {f13 : Nat → Nat → Int32} {t15 : Int32} (h0 : ¬ (1600 ≤ l1_7)) (h1 : ¬ ((v7 2) = 0)) (h2 : gsX_X6_line_1 NF v7 f7 = (1, v12, f13)) (h4 : t15 = l1_7 + 1) : gsX_X6_read_1_L7 NF (n7 + 1) l1_7 v7 f7 = gsX_X6_read_1_L7 NF n7 t15 v12 f13 := by
  subst h4
  simp only [gsX_X6_read_1_L7, if_neg h0, if_neg h1, h2, ite11, ite01, if_true, if_false]
theorem gsX_X6_read_1_q3 {NF : Nat} {n7 : Nat} {l1_7 : Int32} {v7 : Nat → Int32} {f7 : Nat → Nat → Int32} {v12 : Nat → Int32} {f13 : Nat → Nat → Int32} (h0 : ¬ (1600 ≤ l1_7)) (h1 : ¬ ((v7 2) = 0)) (h2 : gsX_X6_line_1 NF v7 f7 = (0, v12, f13)) : gsX_X6_read_1_L7 NF (n7 + 1) l1_7 v7 f7 = (0, v12, f13) := by
  simp only [gsX_X6_read_1_L7, if_neg h0, if_neg h1, h2, ite11, ite01, if_true, if_false]
def gsX_X4_copy_1 (NF : Nat) (v : Nat → Int32) (f : Nat → Nat → Int32) : (Nat → Int32) × (Nat → Nat → Int32) :=
  let f1 : Nat → Nat → Int32 := upd2 f 11 (va_cpy (f 3) (f 11) (0 : Int32).toNatClampNeg (0 : Int32).toNatClampNeg (300 : Int32).toNatClampNeg)
  let f2 : Nat → Nat → Int32 := upd2 f1 12 (va_cpy (f1 4) (f1 12) (0 : Int32).toNatClampNeg (0 : Int32).toNatClampNeg (300 : Int32).toNatClampNeg)
  ((upd (upd v 18 (v 16)) 19 (v 17)), f2)
theorem gsX_X4_copy_1_q0 {NF : Nat} {v : Nat → Int32} {f : Nat → Nat → Int32} {f1 : Nat → Nat → Int32} {f2 : Nat → Nat → Int32} (h0 : f1 = upd2 f 11 (va_cpy (f 3) (f 11) (0 : Int32).toNatClampNeg (0 : Int32).toNatClampNeg (300 : Int32).toNatClampNeg)) (h1 : f2 = upd2 f1 12 (va_cpy (f1 4) (f1 12) (0 : Int32).toNatClampNeg (0 : Int32).toNatClampNeg (300 : Int32).toNatClampNeg)) : gsX_X4_copy_1 NF v f = ((upd (upd v 18 (v 16)) 19 (v 17)), f2) := by
  subst h0 h1
  simp only [gsX_X4_copy_1]
def gsX_X7_copy_1 (NF : Nat) (v : Nat → Int32) (f : Nat → Nat → Int32) : (Nat → Int32) × (Nat → Nat → Int32) :=
  let f1 : Nat → Nat → Int32 := upd2 f 9 (va_cpy (f 1) (f 9) (0 : Int32).toNatClampNeg (0 : Int32).toNatClampNeg (18 : Int32).toNatClampNeg)
  let f2 : Nat → Nat → Int32 := upd2 f1 10 (va_cpy (f1 2) (f1 10) (0 : Int32).toNatClampNeg (0 : Int32).toNatClampNeg (24 : Int32).toNatClampNeg)
  match gsX_X4_copy_1 NF v f2 with
  | (v4, f5) =>
    ((upd (upd (upd (upd (upd (upd (upd v4 31 (v 9)) 32 (v 10)) 33 (v4 11)) 34 (v4 12)) 35 (v4 13)) 36 (v4 14)) 37 (v4 15)), f5)
theorem gsX_X7_copy_1_q0 {NF : Nat} {v : Nat → Int32} {f : Nat → Nat → Int32} {f1 : Nat → Nat → Int32} {f2 : Nat → Nat → Int32} {v4 : Nat → Int32} {f5 : Nat → Nat → Int32} (h0 : f1 = upd2 f 9 (va_cpy (f 1) (f 9) (0 : Int32).toNatClampNeg (0 : Int32).toNatClampNeg (18 : Int32).toNatClampNeg)) (h1 : f2 = upd2 f1 10 (va_cpy (f1 2) (f1 10) (0 : Int32).toNatClampNeg (0 : Int32).toNatClampNeg (24 : Int32).toNatClampNeg)) (h2 : gsX_X4_copy_1 NF v f2 = (v4, f5)) : gsX_X7_copy_1 NF v f = ((upd (upd (upd (upd (upd (upd (upd v4 31 (v 9)) 32 (v 10)) 33 (v4 11)) 34 (v4 12)) 35 (v4 13)) 36 (v4 14)) 37 (v4 15)), f5) := by
  subst h0 h1
  simp only [gsX_X7_copy_1, h2]
def gsX_X7_hasCoat_1 (NF : Nat) (p1 : Int32) (v : Nat → Int32) (f : Nat → Nat → Int32) : Int32 :=
  if p1 < 0 then
    0
  else
    if (v 32) ≤ p1 then
      0
    else
      1
theorem gsX_X7_hasCoat_1_q0 {NF : Nat} {p1 : Int32} {v : Nat → Int32} {f : Nat → Nat → Int32} (h0 : (p1 < 0)) : gsX_X7_hasCoat_1 NF p1 v f = 0 := by
  simp only [gsX_X7_hasCoat_1, if_pos h0]
theorem gsX_X7_hasCoat_1_q1 {NF : Nat} {p1 : Int32} {v : Nat → Int32} {f : Nat → Nat → Int32} (h0 : ¬ (p1 < 0)) (h1 : ((v 32) ≤ p1)) : gsX_X7_hasCoat_1 NF p1 v f = 0 := by
  simp only [gsX_X7_hasCoat_1, if_neg h0, if_pos h1]
theorem gsX_X7_hasCoat_1_q2 {NF : Nat} {p1 : Int32} {v : Nat → Int32} {f : Nat → Nat → Int32} (h0 : ¬ (p1 < 0)) (h1 : ¬ ((v 32) ≤ p1)) : gsX_X7_hasCoat_1 NF p1 v f = 1 := by
  simp only [gsX_X7_hasCoat_1, if_neg h0, if_neg h1]
def gsX_X7_coatPart_1 (NF : Nat) (p1 : Int32) (p2 : Int32) (v : Nat → Int32) (f : Nat → Nat → Int32) : Int32 :=
  if gsX_X7_hasCoat_1 NF p2 v f = 1 then
    if p1 < 0 then
      0
    else
      if 4 ≤ p1 then
        0
      else
        let t6 : Int32 := p1 * 6
        let t8 : Int32 := t6 + p2
        let t11 : Int32 := f 10 (t8).toNatClampNeg
        t11
  else
    0
theorem gsX_X7_coatPart_1_q0 {NF : Nat} {p1 : Int32} {p2 : Int32} {v : Nat → Int32} {f : Nat → Nat → Int32} (h0 : gsX_X7_hasCoat_1 NF p2 v f = 1) (h1 : (p1 < 0)) : gsX_X7_coatPart_1 NF p1 p2 v f = 0 := by
  simp only [gsX_X7_coatPart_1, h0, if_pos h1, ite11, ite01, if_true, if_false]
theorem gsX_X7_coatPart_1_q1 {NF : Nat} {p1 : Int32} {p2 : Int32} {v : Nat → Int32} {f : Nat → Nat → Int32} (h0 : gsX_X7_hasCoat_1 NF p2 v f = 1) (h1 : ¬ (p1 < 0)) (h2 : (4 ≤ p1)) : gsX_X7_coatPart_1 NF p1 p2 v f = 0 := by
  simp only [gsX_X7_coatPart_1, h0, if_neg h1, if_pos h2, ite11, ite01, if_true, if_false]
theorem gsX_X7_coatPart_1_q2 {NF : Nat} {p1 : Int32} {p2 : Int32} {v : Nat → Int32} {f : Nat → Nat → Int32} {t6 : Int32} {t8 : Int32} {t11 : Int32} (h0 : gsX_X7_hasCoat_1 NF p2 v f = 1) (h1 : ¬ (p1 < 0)) (h2 : ¬ (4 ≤ p1)) (h3 : t6 = p1 * 6) (h4 : t8 = t6 + p2) (h5 : t11 = f 10 (t8).toNatClampNeg) : gsX_X7_coatPart_1 NF p1 p2 v f = t11 := by
  subst h3 h4 h5
  simp only [gsX_X7_coatPart_1, h0, if_neg h1, if_neg h2, ite11, ite01, if_true, if_false]
theorem gsX_X7_coatPart_1_q3 {NF : Nat} {p1 : Int32} {p2 : Int32} {v : Nat → Int32} {f : Nat → Nat → Int32} (h0 : gsX_X7_hasCoat_1 NF p2 v f = 0) : gsX_X7_coatPart_1 NF p1 p2 v f = 0 := by
  simp only [gsX_X7_coatPart_1, h0, ite11, ite01, if_true, if_false]
def gsX_X7_hasMan_1 (NF : Nat) (p1 : Int32) (v : Nat → Int32) (f : Nat → Nat → Int32) : Int32 :=
  if p1 < 0 then
    0
  else
    if (v 31) ≤ p1 then
      0
    else
      1
theorem gsX_X7_hasMan_1_q0 {NF : Nat} {p1 : Int32} {v : Nat → Int32} {f : Nat → Nat → Int32} (h0 : (p1 < 0)) : gsX_X7_hasMan_1 NF p1 v f = 0 := by
  simp only [gsX_X7_hasMan_1, if_pos h0]
theorem gsX_X7_hasMan_1_q1 {NF : Nat} {p1 : Int32} {v : Nat → Int32} {f : Nat → Nat → Int32} (h0 : ¬ (p1 < 0)) (h1 : ((v 31) ≤ p1)) : gsX_X7_hasMan_1 NF p1 v f = 0 := by
  simp only [gsX_X7_hasMan_1, if_neg h0, if_pos h1]
theorem gsX_X7_hasMan_1_q2 {NF : Nat} {p1 : Int32} {v : Nat → Int32} {f : Nat → Nat → Int32} (h0 : ¬ (p1 < 0)) (h1 : ¬ ((v 31) ≤ p1)) : gsX_X7_hasMan_1 NF p1 v f = 1 := by
  simp only [gsX_X7_hasMan_1, if_neg h0, if_neg h1]
def gsX_X7_manPart_1 (NF : Nat) (p1 : Int32) (p2 : Int32) (v : Nat → Int32) (f : Nat → Nat → Int32) : Int32 :=
  if gsX_X7_hasMan_1 NF p2 v f = 1 then
    if p1 < 0 then
      0
    else
      if 3 ≤ p1 then
        0
      else
        let t6 : Int32 := p1 * 6
        let t8 : Int32 := t6 + p2
        let t11 : Int32 := f 9 (t8).toNatClampNeg
        t11
  else
    0
theorem gsX_X7_manPart_1_q0 {NF : Nat} {p1 : Int32} {p2 : Int32} {v : Nat → Int32} {f : Nat → Nat → Int32} (h0 : gsX_X7_hasMan_1 NF p2 v f = 1) (h1 : (p1 < 0)) : gsX_X7_manPart_1 NF p1 p2 v f = 0 := by
  simp only [gsX_X7_manPart_1, h0, if_pos h1, ite11, ite01, if_true, if_false]
theorem gsX_X7_manPart_1_q1 {NF : Nat} {p1 : Int32} {p2 : Int32} {v : Nat → Int32} {f : Nat → Nat → Int32} (h0 : gsX_X7_hasMan_1 NF p2 v f = 1) (h1 : ¬ (p1 < 0)) (h2 : (3 ≤ p1)) : gsX_X7_manPart_1 NF p1 p2 v f = 0 := by
  simp only [gsX_X7_manPart_1, h0, if_neg h1, if_pos h2, ite11, ite01, if_true, if_false]
theorem gsX_X7_manPart_1_q2 {NF : Nat} {p1 : Int32} {p2 : Int32} {v : Nat → Int32} {f : Nat → Nat → Int32} {t6 : Int32} {t8 : Int32} {t11 : Int32} (h0 : gsX_X7_hasMan_1 NF p2 v f = 1) (h1 : ¬ (p1 < 0)) (h2 : ¬ (3 ≤ p1)) (h3 : t6 = p1 * 6) (h4 : t8 = t6 + p2) (h5 : t11 = f 9 (t8).toNatClampNeg) : gsX_X7_manPart_1 NF p1 p2 v f = t11 := by
  subst h3 h4 h5
  simp only [gsX_X7_manPart_1, h0, if_neg h1, if_neg h2, ite11, ite01, if_true, if_false]
theorem gsX_X7_manPart_1_q3 {NF : Nat} {p1 : Int32} {p2 : Int32} {v : Nat → Int32} {f : Nat → Nat → Int32} (h0 : gsX_X7_hasMan_1 NF p2 v f = 0) : gsX_X7_manPart_1 NF p1 p2 v f = 0 := by
  simp only [gsX_X7_manPart_1, h0, ite11, ite01, if_true, if_false]
def gsX_X1_muster_1_L7 (NF : Nat) (l1_3 : Int32) (k3 : Int32 → (Nat → Int32) → (Nat → Nat → Int32) → ((Nat → Int32) × (Nat → Nat → Int32))) : Nat → (Int32) → (Nat → Int32) → (Nat → Nat → Int32) → (Nat → Int32) × (Nat → Nat → Int32)
  | 0, _, _, _ => ((fun _ => 0), (fun _ _ => 0))
  | n7 + 1, l2_7, v7, f7 =>
    if 5 ≤ l2_7 then
      let t9 : Int32 := l1_3 + 1
      k3 t9 v7 f7
    else
      let t12 : Int32 := l2_7 * 6
      let t14 : Int32 := 12 + t12
      let t16 : Int32 := t14 + l1_3
      let r19 : Int32 := gsX_X7_coatPart_1 NF l2_7 l1_3 v7 f7
      let f21 : Nat → Nat → Int32 := upd2 f7 15 (upd (f7 15) t16.toNatClampNeg r19)
      let t22 : Int32 := l2_7 + 1
      gsX_X1_muster_1_L7 NF l1_3 k3 n7 t22 v7 f21
def gsX_X1_muster_1_L3 (NF : Nat) : Nat → (Int32) → (Nat → Int32) → (Nat → Nat → Int32) → (Nat → Int32) × (Nat → Nat → Int32)
  | 0, _, _, _ => ((fun _ => 0), (fun _ _ => 0))
  | n3 + 1, l1_3, v3, f3 =>
    if 6 ≤ l1_3 then
      let f5 : Nat → Nat → Int32 := upd2 f3 15 (upd (f3 15) (42 : Int32).toNatClampNeg 0)
      let f6 : Nat → Nat → Int32 := upd2 f5 15 (upd (f5 15) (43 : Int32).toNatClampNeg (v3 37))
      (v3, f6)
    else
      gsX_X1_muster_1_L7 NF l1_3 (fun z0 z1 z2 => gsX_X1_muster_1_L3 NF n3 z0 z1 z2) (4294967296 + NF) 0 v3 f3
def gsX_X1_muster_1_L1 (NF : Nat) : Nat → (Int32) → (Nat → Int32) → (Nat → Nat → Int32) → (Nat → Int32) × (Nat → Nat → Int32)
  | 0, _, _, _ => ((fun _ => 0), (fun _ _ => 0))
  | n1 + 1, l1_1, v1, f1 =>
    if 6 ≤ l1_1 then
      gsX_X1_muster_1_L3 NF (4294967296 + NF) 0 v1 f1
    else
      let r24 : Int32 := gsX_X7_manPart_1 NF 1 l1_1 v1 f1
      let f26 : Nat → Nat → Int32 := upd2 f1 15 (upd (f1 15) l1_1.toNatClampNeg r24)
      let t27 : Int32 := 6 + l1_1
      let f29 : Nat → Nat → Int32 := upd2 f26 15 (upd (f26 15) t27.toNatClampNeg (-1))
      let t30 : Int32 := l1_1 + 1
      gsX_X1_muster_1_L1 NF n1 t30 v1 f29
def gsX_X1_muster_1 (NF : Nat) (v : Nat → Int32) (f : Nat → Nat → Int32) : (Nat → Int32) × (Nat → Nat → Int32) :=
  gsX_X1_muster_1_L1 NF (4294967296 + NF) 0 v f
theorem gsX_X1_muster_1_q6 {NF : Nat} {v : Nat → Int32} {f : Nat → Nat → Int32}  : gsX_X1_muster_1 NF v f = gsX_X1_muster_1_L1 NF (4294967296 + NF) 0 v f := by
  simp only [gsX_X1_muster_1]
theorem gsX_X1_muster_1_q4 {NF : Nat} {n1 : Nat} {l1_1 : Int32} {v1 : Nat → Int32} {f1 : Nat → Nat → Int32} (h0 : (6 ≤ l1_1)) : gsX_X1_muster_1_L1 NF (n1 + 1) l1_1 v1 f1 = gsX_X1_muster_1_L3 NF (4294967296 + NF) 0 v1 f1 := by
  simp only [gsX_X1_muster_1_L1, if_pos h0]
theorem gsX_X1_muster_1_q5 {NF : Nat} {n1 : Nat} {l1_1 : Int32} {v1 : Nat → Int32} {f1 : Nat → Nat → Int32} {r24 : Int32} {f26 : Nat → Nat → Int32} {t27 : Int32} {f29 : Nat → Nat → Int32} {t30 : Int32} (h0 : ¬ (6 ≤ l1_1)) (h1 : r24 = gsX_X7_manPart_1 NF 1 l1_1 v1 f1) (h2 : f26 = upd2 f1 15 (upd (f1 15) l1_1.toNatClampNeg r24)) (h3 : t27 = 6 + l1_1) (h4 : f29 = upd2 f26 15 (upd (f26 15) t27.toNatClampNeg (-1))) (h5 : t30 = l1_1 + 1) : gsX_X1_muster_1_L1 NF (n1 + 1) l1_1 v1 f1 = gsX_X1_muster_1_L1 NF n1 t30 v1 f29 := by
  subst h1 h2 h3 h4 h5
  simp only [gsX_X1_muster_1_L1, if_neg h0]
theorem gsX_X1_muster_1_q0 {NF : Nat} {n3 : Nat} {l1_3 : Int32} {v3 : Nat → Int32} {f3 : Nat → Nat → Int32} {f5 : Nat → Nat → Int32} {f6 : Nat → Nat → Int32} (h0 : (6 ≤ l1_3)) (h1 : f5 = upd2 f3 15 (upd (f3 15) (42 : Int32).toNatClampNeg 0)) (h2 : f6 = upd2 f5 15 (upd (f5 15) (43 : Int32).toNatClampNeg (v3 37))) : gsX_X1_muster_1_L3 NF (n3 + 1) l1_3 v3 f3 = (v3, f6) := by
  subst h1 h2
  simp only [gsX_X1_muster_1_L3, if_pos h0]
theorem gsX_X1_muster_1_q3 {NF : Nat} {n3 : Nat} {l1_3 : Int32} {v3 : Nat → Int32} {f3 : Nat → Nat → Int32} (h0 : ¬ (6 ≤ l1_3)) : gsX_X1_muster_1_L3 NF (n3 + 1) l1_3 v3 f3 = gsX_X1_muster_1_L7 NF l1_3 (fun z0 z1 z2 => gsX_X1_muster_1_L3 NF n3 z0 z1 z2) (4294967296 + NF) 0 v3 f3 := by
  simp only [gsX_X1_muster_1_L3, if_neg h0]
theorem gsX_X1_muster_1_q1 {NF : Nat} {l1_3 : Int32} {n7 : Nat} {l2_7 : Int32} {v7 : Nat → Int32} {f7 : Nat → Nat → Int32} {t9 : Int32} {k3 : Int32 → (Nat → Int32) → (Nat → Nat → Int32) → ((Nat → Int32) × (Nat → Nat → Int32))} (h0 : (5 ≤ l2_7)) (h1 : t9 = l1_3 + 1) : gsX_X1_muster_1_L7 NF l1_3 k3 (n7 + 1) l2_7 v7 f7 = k3 t9 v7 f7 := by
  subst h1
  simp only [gsX_X1_muster_1_L7, if_pos h0]
theorem gsX_X1_muster_1_q2 {NF : Nat} {l1_3 : Int32} {n7 : Nat} {l2_7 : Int32} {v7 : Nat → Int32} {f7 : Nat → Nat → Int32} {t12 : Int32} {t14 : Int32} {t16 : Int32} {r19 : Int32} {f21 : Nat → Nat → Int32} {t22 : Int32} {k3 : Int32 → (Nat → Int32) → (Nat → Nat → Int32) → ((Nat → Int32) × (Nat → Nat → Int32))} (h0 : ¬ (5 ≤ l2_7)) (h1 : t12 = l2_7 * 6) (h2 : t14 = 12 + t12) (h3 : t16 = t14 + l1_3) (h4 : r19 = gsX_X7_coatPart_1 NF l2_7 l1_3 v7 f7) (h5 : f21 = upd2 f7 15 (upd (f7 15) t16.toNatClampNeg r19)) (h6 : t22 = l2_7 + 1) : gsX_X1_muster_1_L7 NF l1_3 k3 (n7 + 1) l2_7 v7 f7 = gsX_X1_muster_1_L7 NF l1_3 k3 n7 t22 v7 f21 := by
  subst h1 h2 h3 h4 h5 h6
  simp only [gsX_X1_muster_1_L7, if_neg h0]
def gsX_X1_saveTo_1 (NF : Nat) (p2 : Int32) (v : Nat → Int32) (f : Nat → Nat → Int32) : (Nat → Int32) × (Nat → Nat → Int32) :=
  if p2 < 0 then
    (v, f)
  else
    if 41 ≤ p2 then
      (v, f)
    else
      let t3 : Int32 := p2 * 44
      let f5 : Nat → Nat → Int32 := upd2 f 17 (va_cpy (f 15) (f 17) (0 : Int32).toNatClampNeg (t3).toNatClampNeg (44 : Int32).toNatClampNeg)
      (v, f5)
theorem gsX_X1_saveTo_1_q0 {NF : Nat} {p2 : Int32} {v : Nat → Int32} {f : Nat → Nat → Int32} (h0 : (p2 < 0)) : gsX_X1_saveTo_1 NF p2 v f = (v, f) := by
  simp only [gsX_X1_saveTo_1, if_pos h0]
theorem gsX_X1_saveTo_1_q1 {NF : Nat} {p2 : Int32} {v : Nat → Int32} {f : Nat → Nat → Int32} (h0 : ¬ (p2 < 0)) (h1 : (41 ≤ p2)) : gsX_X1_saveTo_1 NF p2 v f = (v, f) := by
  simp only [gsX_X1_saveTo_1, if_neg h0, if_pos h1]
theorem gsX_X1_saveTo_1_q2 {NF : Nat} {p2 : Int32} {v : Nat → Int32} {f : Nat → Nat → Int32} {t3 : Int32} {f5 : Nat → Nat → Int32} (h0 : ¬ (p2 < 0)) (h1 : ¬ (41 ≤ p2)) (h2 : t3 = p2 * 44) (h3 : f5 = upd2 f 17 (va_cpy (f 15) (f 17) (0 : Int32).toNatClampNeg (t3).toNatClampNeg (44 : Int32).toNatClampNeg)) : gsX_X1_saveTo_1 NF p2 v f = (v, f5) := by
  subst h2 h3
  simp only [gsX_X1_saveTo_1, if_neg h0, if_neg h1]
def gsX_X5_forgetActs_1 (NF : Nat) (v : Nat → Int32) (f : Nat → Nat → Int32) : (Nat → Int32) × (Nat → Nat → Int32) :=
  match gsX_X1_saveTo_1 NF 0 (upd (upd (upd v 21 0) 22 0) 23 0) f with
  | (v2, f3) =>
    (v2, f3)
theorem gsX_X5_forgetActs_1_q0 {NF : Nat} {v : Nat → Int32} {f : Nat → Nat → Int32} {v2 : Nat → Int32} {f3 : Nat → Nat → Int32} (h0 : gsX_X1_saveTo_1 NF 0 (upd (upd (upd v 21 0) 22 0) 23 0) f = (v2, f3)) : gsX_X5_forgetActs_1 NF v f = (v2, f3) := by
  simp only [gsX_X5_forgetActs_1, h0]
def gsX_X5_forgetAll_1 (NF : Nat) (v : Nat → Int32) (f : Nat → Nat → Int32) : (Nat → Int32) × (Nat → Nat → Int32) :=
  match gsX_X5_forgetActs_1 NF (upd v 20 0) f with
  | (v2, f3) =>
    (v2, f3)
theorem gsX_X5_forgetAll_1_q0 {NF : Nat} {v : Nat → Int32} {f : Nat → Nat → Int32} {v2 : Nat → Int32} {f3 : Nat → Nat → Int32} (h0 : gsX_X5_forgetActs_1 NF (upd v 20 0) f = (v2, f3)) : gsX_X5_forgetAll_1 NF v f = (v2, f3) := by
  simp only [gsX_X5_forgetAll_1, h0]
def gsX_X0_clear_1 (NF : Nat) (v : Nat → Int32) (f : Nat → Nat → Int32) : (Nat → Int32) × (Nat → Nat → Int32) :=
  ((upd v 38 0), f)
theorem gsX_X0_clear_1_q0 {NF : Nat} {v : Nat → Int32} {f : Nat → Nat → Int32}  : gsX_X0_clear_1 NF v f = ((upd v 38 0), f) := by
  simp only [gsX_X0_clear_1]
def gsX_J7_fill_53178_1_L1 (NF : Nat) (p1 : Int32) : Nat → (Int32) → (Nat → Int32) → (Nat → Nat → Int32) → (Nat → Int32) × (Nat → Nat → Int32)
  | 0, _, _, _ => ((fun _ => 0), (fun _ _ => 0))
  | n1 + 1, l2_1, v1, f1 =>
    if 21 ≤ l2_1 then
      (v1, f1)
    else
      let f3 : Nat → Nat → Int32 := upd2 f1 27 (upd (f1 27) l2_1.toNatClampNeg p1)
      let t4 : Int32 := l2_1 + 1
      gsX_J7_fill_53178_1_L1 NF p1 n1 t4 v1 f3
def gsX_J7_fill_53178_1 (NF : Nat) (p1 : Int32) (v : Nat → Int32) (f : Nat → Nat → Int32) : (Nat → Int32) × (Nat → Nat → Int32) :=
  gsX_J7_fill_53178_1_L1 NF p1 (4294967296 + NF) 0 v f
theorem gsX_J7_fill_53178_1_q2 {NF : Nat} {p1 : Int32} {v : Nat → Int32} {f : Nat → Nat → Int32}  : gsX_J7_fill_53178_1 NF p1 v f = gsX_J7_fill_53178_1_L1 NF p1 (4294967296 + NF) 0 v f := by
  simp only [gsX_J7_fill_53178_1]
theorem gsX_J7_fill_53178_1_q0 {NF : Nat} {p1 : Int32} {n1 : Nat} {l2_1 : Int32} {v1 : Nat → Int32} {f1 : Nat → Nat → Int32} (h0 : (21 ≤ l2_1)) : gsX_J7_fill_53178_1_L1 NF p1 (n1 + 1) l2_1 v1 f1 = (v1, f1) := by
  simp only [gsX_J7_fill_53178_1_L1, if_pos h0]
theorem gsX_J7_fill_53178_1_q1 {NF : Nat} {p1 : Int32} {n1 : Nat} {l2_1 : Int32} {v1 : Nat → Int32} {f1 : Nat → Nat → Int32} {f3 : Nat → Nat → Int32} {t4 : Int32} (h0 : ¬ (21 ≤ l2_1)) (h1 : f3 = upd2 f1 27 (upd (f1 27) l2_1.toNatClampNeg p1)) (h2 : t4 = l2_1 + 1) : gsX_J7_fill_53178_1_L1 NF p1 (n1 + 1) l2_1 v1 f1 = gsX_J7_fill_53178_1_L1 NF p1 n1 t4 v1 f3 := by
  subst h1 h2
  simp only [gsX_J7_fill_53178_1_L1, if_neg h0]
def gsX_X8_clear_1 (NF : Nat) (v : Nat → Int32) (f : Nat → Nat → Int32) : (Nat → Int32) × (Nat → Nat → Int32) :=
  match gsX_J7_fill_53178_1 NF (-1) (upd v 41 0) f with
  | (v2, f3) =>
    (v2, f3)
theorem gsX_X8_clear_1_q0 {NF : Nat} {v : Nat → Int32} {f : Nat → Nat → Int32} {v2 : Nat → Int32} {f3 : Nat → Nat → Int32} (h0 : gsX_J7_fill_53178_1 NF (-1) (upd v 41 0) f = (v2, f3)) : gsX_X8_clear_1 NF v f = (v2, f3) := by
  simp only [gsX_X8_clear_1, h0]
def gsX_X10_regiment_1 (NF : Nat) (v : Nat → Int32) (f : Nat → Nat → Int32) : Int32 × (Nat → Int32) × (Nat → Nat → Int32) :=
  match gsX_X6_read_1 NF v f with
  | (r1, v3, f4) =>
    if r1 = 1 then
      match gsX_X7_copy_1 NF (upd v3 1 0) f4 with
      | (v7, f8) =>
        match gsX_X1_muster_1 NF v7 f8 with
        | (v10, f11) =>
          match gsX_X5_forgetAll_1 NF v10 f11 with
          | (v13, f14) =>
            match gsX_X0_clear_1 NF v13 f14 with
            | (v16, f17) =>
              match gsX_X8_clear_1 NF v16 f17 with
              | (v19, f20) =>
                ((v7 31), v19, f20)
    else
      ((-1), (upd v3 1 0), f4)
theorem gsX_X10_regiment_1_q0 {NF : Nat} {v : Nat → Int32} {f : Nat → Nat → Int32} {v3 : Nat → Int32} {f4 : Nat → Nat → Int32} {v7 : Nat → Int32} {f8 : Nat → Nat → Int32} {v10 : Nat → Int32} {f11 : Nat → Nat → Int32} {v13 : Nat → Int32} {f14 : Nat → Nat → Int32} {v16 : Nat → Int32} {f17 : Nat → Nat → Int32} {v19 : Nat → Int32} {f20 : Nat → Nat → Int32} (h0 : gsX_X6_read_1 NF v f = (1, v3, f4)) (h2 : gsX_X7_copy_1 NF (upd v3 1 0) f4 = (v7, f8)) (h3 : gsX_X1_muster_1 NF v7 f8 = (v10, f11)) (h4 : gsX_X5_forgetAll_1 NF v10 f11 = (v13, f14)) (h5 : gsX_X0_clear_1 NF v13 f14 = (v16, f17)) (h6 : gsX_X8_clear_1 NF v16 f17 = (v19, f20)) : gsX_X10_regiment_1 NF v f = ((v7 31), v19, f20) := by
  simp only [gsX_X10_regiment_1, h0, h2, h3, h4, h5, h6, ite11, ite01, if_true, if_false]
theorem gsX_X10_regiment_1_q1 {NF : Nat} {v : Nat → Int32} {f : Nat → Nat → Int32} {v3 : Nat → Int32} {f4 : Nat → Nat → Int32} (h0 : gsX_X6_read_1 NF v f = (0, v3, f4)) : gsX_X10_regiment_1 NF v f = ((-1), (upd v3 1 0), f4) := by
  simp only [gsX_X10_regiment_1, h0, ite11, ite01, if_true, if_false]
def gsX_X8_tell_1 (NF : Nat) (p1 : Int32) (p2 : Int32) (p3 : Int32) (v : Nat → Int32) (f : Nat → Nat → Int32) : Int32 × (Nat → Int32) × (Nat → Nat → Int32) :=
  if p1 < 0 then
    ((-1), v, f)
  else
    if 20 < p1 then
      ((-1), v, f)
    else
      if (v 41) < 30 then
        let f4 : Nat → Nat → Int32 := upd2 f 23 (upd (f 23) (v 41).toNatClampNeg p1)
        let f5 : Nat → Nat → Int32 := upd2 f4 24 (upd (f4 24) (v 41).toNatClampNeg (vp_nar .boolean p2))
        let f6 : Nat → Nat → Int32 := upd2 f5 25 (upd (f5 25) (v 41).toNatClampNeg p3)
        let f7 : Nat → Nat → Int32 := upd2 f6 26 (upd (f6 26) (v 41).toNatClampNeg (-1))
        let t8 : Int32 := (v 41) + 1
        let t10 : Int32 := t8 - 1
        (t10, (upd v 41 t8), f7)
      else
        ((-1), v, f)
theorem gsX_X8_tell_1_q0 {NF : Nat} {p1 : Int32} {p2 : Int32} {p3 : Int32} {v : Nat → Int32} {f : Nat → Nat → Int32} (h0 : (p1 < 0)) : gsX_X8_tell_1 NF p1 p2 p3 v f = ((-1), v, f) := by
  simp only [gsX_X8_tell_1, if_pos h0]
theorem gsX_X8_tell_1_q1 {NF : Nat} {p1 : Int32} {p2 : Int32} {p3 : Int32} {v : Nat → Int32} {f : Nat → Nat → Int32} (h0 : ¬ (p1 < 0)) (h1 : (20 < p1)) : gsX_X8_tell_1 NF p1 p2 p3 v f = ((-1), v, f) := by
  simp only [gsX_X8_tell_1, if_neg h0, if_pos h1]
theorem gsX_X8_tell_1_q2 {NF : Nat} {p1 : Int32} {p2 : Int32} {p3 : Int32} {v : Nat → Int32} {f : Nat → Nat → Int32} {f4 : Nat → Nat → Int32} {f5 : Nat → Nat → Int32} {f6 : Nat → Nat → Int32} {f7 : Nat → Nat → Int32} {t8 : Int32} {t10 : Int32} (h0 : ¬ (p1 < 0)) (h1 : ¬ (20 < p1)) (h2 : ((v 41) < 30)) (h3 : f4 = upd2 f 23 (upd (f 23) (v 41).toNatClampNeg p1)) (h4 : f5 = upd2 f4 24 (upd (f4 24) (v 41).toNatClampNeg (vp_nar .boolean p2))) (h5 : f6 = upd2 f5 25 (upd (f5 25) (v 41).toNatClampNeg p3)) (h6 : f7 = upd2 f6 26 (upd (f6 26) (v 41).toNatClampNeg (-1))) (h7 : t8 = (v 41) + 1) (h8 : t10 = t8 - 1) : gsX_X8_tell_1 NF p1 p2 p3 v f = (t10, (upd v 41 t8), f7) := by
  subst h3 h4 h5 h6 h7 h8
  simp only [gsX_X8_tell_1, if_neg h0, if_neg h1, if_pos h2]
theorem gsX_X8_tell_1_q3 {NF : Nat} {p1 : Int32} {p2 : Int32} {p3 : Int32} {v : Nat → Int32} {f : Nat → Nat → Int32} (h0 : ¬ (p1 < 0)) (h1 : ¬ (20 < p1)) (h2 : ¬ ((v 41) < 30)) : gsX_X8_tell_1 NF p1 p2 p3 v f = ((-1), v, f) := by
  simp only [gsX_X8_tell_1, if_neg h0, if_neg h1, if_neg h2]
def gsX_X10_seen_1 (NF : Nat) (p1 : Int32) (p2 : Int32) (v : Nat → Int32) (f : Nat → Nat → Int32) : Int32 × (Nat → Int32) × (Nat → Nat → Int32) :=
  if (v 31) = 0 then
    ((-1), v, f)
  else
    if (v 32) = 0 then
      ((-1), v, f)
    else
      match gsX_X8_tell_1 NF p1 p2 (v 0) v f with
      | (r3, v5, f6) =>
        (r3, v5, f6)
theorem gsX_X10_seen_1_q0 {NF : Nat} {p1 : Int32} {p2 : Int32} {v : Nat → Int32} {f : Nat → Nat → Int32} (h0 : ((v 31) = 0)) : gsX_X10_seen_1 NF p1 p2 v f = ((-1), v, f) := by
  simp only [gsX_X10_seen_1, if_pos h0]
theorem gsX_X10_seen_1_q1 {NF : Nat} {p1 : Int32} {p2 : Int32} {v : Nat → Int32} {f : Nat → Nat → Int32} {r3 : Int32} {v5 : Nat → Int32} {f6 : Nat → Nat → Int32} (h0 : ¬ ((v 31) = 0)) (h1 : ¬ ((v 32) = 0)) (h2 : gsX_X8_tell_1 NF p1 p2 (v 0) v f = (r3, v5, f6)) : gsX_X10_seen_1 NF p1 p2 v f = (r3, v5, f6) := by
  simp only [gsX_X10_seen_1, if_neg h0, if_neg h1, h2]
theorem gsX_X10_seen_1_q2 {NF : Nat} {p1 : Int32} {p2 : Int32} {v : Nat → Int32} {f : Nat → Nat → Int32} (h0 : ¬ ((v 31) = 0)) (h1 : ((v 32) = 0)) : gsX_X10_seen_1 NF p1 p2 v f = ((-1), v, f) := by
  simp only [gsX_X10_seen_1, if_neg h0, if_pos h1]
def gsX_X8_takeBack_1 (NF : Nat) (p1 : Int32) (p2 : Int32) (v : Nat → Int32) (f : Nat → Nat → Int32) : Int32 × (Nat → Int32) × (Nat → Nat → Int32) :=
  if p1 < 0 then
    (0, v, f)
  else
    if (v 41) ≤ p1 then
      (0, v, f)
    else
      if 30 ≤ p1 then
        (0, v, f)
      else
        let t8 : Int32 := f 26 (p1).toNatClampNeg
        if t8 = (-1) then
          let f10 : Nat → Nat → Int32 := upd2 f 26 (upd (f 26) p1.toNatClampNeg p2)
          (1, v, f10)
        else
          (0, v, f)
theorem gsX_X8_takeBack_1_q0 {NF : Nat} {p1 : Int32} {p2 : Int32} {v : Nat → Int32} {f : Nat → Nat → Int32} (h0 : (p1 < 0)) : gsX_X8_takeBack_1 NF p1 p2 v f = (0, v, f) := by
  simp only [gsX_X8_takeBack_1, if_pos h0]
theorem gsX_X8_takeBack_1_q1 {NF : Nat} {p1 : Int32} {p2 : Int32} {v : Nat → Int32} {f : Nat → Nat → Int32} (h0 : ¬ (p1 < 0)) (h1 : ((v 41) ≤ p1)) : gsX_X8_takeBack_1 NF p1 p2 v f = (0, v, f) := by
  simp only [gsX_X8_takeBack_1, if_neg h0, if_pos h1]
theorem gsX_X8_takeBack_1_q2 {NF : Nat} {p1 : Int32} {p2 : Int32} {v : Nat → Int32} {f : Nat → Nat → Int32} (h0 : ¬ (p1 < 0)) (h1 : ¬ ((v 41) ≤ p1)) (h2 : (30 ≤ p1)) : gsX_X8_takeBack_1 NF p1 p2 v f = (0, v, f) := by
  simp only [gsX_X8_takeBack_1, if_neg h0, if_neg h1, if_pos h2]
theorem gsX_X8_takeBack_1_q3 {NF : Nat} {p1 : Int32} {p2 : Int32} {v : Nat → Int32} {f : Nat → Nat → Int32} {t8 : Int32} {f10 : Nat → Nat → Int32} (h0 : ¬ (p1 < 0)) (h1 : ¬ ((v 41) ≤ p1)) (h2 : ¬ (30 ≤ p1)) (h3 : t8 = f 26 (p1).toNatClampNeg) (h4 : (t8 = (-1))) (h5 : f10 = upd2 f 26 (upd (f 26) p1.toNatClampNeg p2)) : gsX_X8_takeBack_1 NF p1 p2 v f = (1, v, f10) := by
  subst h3 h5
  simp only [gsX_X8_takeBack_1, if_neg h0, if_neg h1, if_neg h2, if_pos h4]
theorem gsX_X8_takeBack_1_q4 {NF : Nat} {p1 : Int32} {p2 : Int32} {v : Nat → Int32} {f : Nat → Nat → Int32} {t8 : Int32} (h0 : ¬ (p1 < 0)) (h1 : ¬ ((v 41) ≤ p1)) (h2 : ¬ (30 ≤ p1)) (h3 : t8 = f 26 (p1).toNatClampNeg) (h4 : ¬ (t8 = (-1))) : gsX_X8_takeBack_1 NF p1 p2 v f = (0, v, f) := by
  subst h3
  simp only [gsX_X8_takeBack_1, if_neg h0, if_neg h1, if_neg h2, if_neg h4]
def gsX_X10_untell_1 (NF : Nat) (p1 : Int32) (v : Nat → Int32) (f : Nat → Nat → Int32) : Int32 × (Nat → Int32) × (Nat → Nat → Int32) :=
  match gsX_X8_takeBack_1 NF p1 (v 0) v f with
  | (r1, v3, f4) =>
    if r1 = 1 then
      (1, v3, f4)
    else
      (0, v3, f4)
theorem gsX_X10_untell_1_q0 {NF : Nat} {p1 : Int32} {v : Nat → Int32} {f : Nat → Nat → Int32} {v3 : Nat → Int32} {f4 : Nat → Nat → Int32} (h0 : gsX_X8_takeBack_1 NF p1 (v 0) v f = (1, v3, f4)) : gsX_X10_untell_1 NF p1 v f = (1, v3, f4) := by
  simp only [gsX_X10_untell_1, h0, ite11, ite01, if_true, if_false]
theorem gsX_X10_untell_1_q1 {NF : Nat} {p1 : Int32} {v : Nat → Int32} {f : Nat → Nat → Int32} {v3 : Nat → Int32} {f4 : Nat → Nat → Int32} (h0 : gsX_X8_takeBack_1 NF p1 (v 0) v f = (0, v3, f4)) : gsX_X10_untell_1 NF p1 v f = (0, v3, f4) := by
  simp only [gsX_X10_untell_1, h0, ite11, ite01, if_true, if_false]
def gsX_X10_later_1 (NF : Nat) (p1 : Int32) (v : Nat → Int32) (f : Nat → Nat → Int32) : Int32 × (Nat → Int32) × (Nat → Nat → Int32) :=
  if p1 < 0 then
    ((-1), v, f)
  else
    if 1000 < p1 then
      ((-1), v, f)
    else
      let t3 : Int32 := (v 0) + p1
      if t3 ≤ 100000 then
        (t3, (upd v 0 t3), f)
      else
        ((-1), v, f)
theorem gsX_X10_later_1_q0 {NF : Nat} {p1 : Int32} {v : Nat → Int32} {f : Nat → Nat → Int32} (h0 : (p1 < 0)) : gsX_X10_later_1 NF p1 v f = ((-1), v, f) := by
  simp only [gsX_X10_later_1, if_pos h0]
theorem gsX_X10_later_1_q1 {NF : Nat} {p1 : Int32} {v : Nat → Int32} {f : Nat → Nat → Int32} (h0 : ¬ (p1 < 0)) (h1 : (1000 < p1)) : gsX_X10_later_1 NF p1 v f = ((-1), v, f) := by
  simp only [gsX_X10_later_1, if_neg h0, if_pos h1]
theorem gsX_X10_later_1_q2 {NF : Nat} {p1 : Int32} {v : Nat → Int32} {f : Nat → Nat → Int32} {t3 : Int32} (h0 : ¬ (p1 < 0)) (h1 : ¬ (1000 < p1)) (h2 : t3 = (v 0) + p1) (h3 : (t3 ≤ 100000)) : gsX_X10_later_1 NF p1 v f = (t3, (upd v 0 t3), f) := by
  subst h2
  simp only [gsX_X10_later_1, if_neg h0, if_neg h1, if_pos h3]
theorem gsX_X10_later_1_q3 {NF : Nat} {p1 : Int32} {v : Nat → Int32} {f : Nat → Nat → Int32} {t3 : Int32} (h0 : ¬ (p1 < 0)) (h1 : ¬ (1000 < p1)) (h2 : t3 = (v 0) + p1) (h3 : ¬ (t3 ≤ 100000)) : gsX_X10_later_1 NF p1 v f = ((-1), v, f) := by
  subst h2
  simp only [gsX_X10_later_1, if_neg h0, if_neg h1, if_neg h3]
def gsX_X10_commonDivisor_1_L1 (NF : Nat) : Nat → (Int32) → (Int32) → (Int32) → Int32
  | 0, _, _, _ => 0
  | n1 + 1, l2_1, l3_1, l4_1 =>
    if 100 ≤ l4_1 then
      l2_1
    else
      if l3_1 = 0 then
        l2_1
      else
        let t4 : Int32 := l2_1 - l2_1 / l3_1 * l3_1
        let t5 : Int32 := l4_1 + 1
        gsX_X10_commonDivisor_1_L1 NF n1 l3_1 t4 t5
def gsX_X10_commonDivisor_1 (NF : Nat) (p0 : Int32) (p1 : Int32) (v : Nat → Int32) (f : Nat → Nat → Int32) : Int32 :=
  gsX_X10_commonDivisor_1_L1 NF (4294967296 + NF) p0 p1 0
theorem gsX_X10_commonDivisor_1_q3 {NF : Nat} {p0 : Int32} {p1 : Int32} {v : Nat → Int32} {f : Nat → Nat → Int32}  : gsX_X10_commonDivisor_1 NF p0 p1 v f = gsX_X10_commonDivisor_1_L1 NF (4294967296 + NF) p0 p1 0 := by
  simp only [gsX_X10_commonDivisor_1]
theorem gsX_X10_commonDivisor_1_q0 {NF : Nat} {n1 : Nat} {l2_1 : Int32} {l3_1 : Int32} {l4_1 : Int32} (h0 : (100 ≤ l4_1)) : gsX_X10_commonDivisor_1_L1 NF (n1 + 1) l2_1 l3_1 l4_1 = l2_1 := by
  simp only [gsX_X10_commonDivisor_1_L1, if_pos h0]
theorem gsX_X10_commonDivisor_1_q1 {NF : Nat} {n1 : Nat} {l2_1 : Int32} {l3_1 : Int32} {l4_1 : Int32} (h0 : ¬ (100 ≤ l4_1)) (h1 : (l3_1 = 0)) : gsX_X10_commonDivisor_1_L1 NF (n1 + 1) l2_1 l3_1 l4_1 = l2_1 := by
  simp only [gsX_X10_commonDivisor_1_L1, if_neg h0, if_pos h1]
theorem gsX_X10_commonDivisor_1_q2 {NF : Nat} {n1 : Nat} {l2_1 : Int32} {l3_1 : Int32} {l4_1 : Int32} {t4 : Int32} {t5 : Int32} (h0 : ¬ (100 ≤ l4_1)) (h1 : ¬ (l3_1 = 0)) (h2 : t4 = l2_1 - l2_1 / l3_1 * l3_1) (h3 : t5 = l4_1 + 1) : gsX_X10_commonDivisor_1_L1 NF (n1 + 1) l2_1 l3_1 l4_1 = gsX_X10_commonDivisor_1_L1 NF n1 l3_1 t4 t5 := by
  subst h2 h3
  simp only [gsX_X10_commonDivisor_1_L1, if_neg h0, if_neg h1]
def gsX_X10_odds_1_L5 (NF : Nat) (p1 : Int32) (p2 : Int32) (v : Nat → Int32) (f : Nat → Nat → Int32) : Nat → (Int32) → (Int32) → (Int32) → Int32
  | 0, _, _, _ => 0
  | n5 + 1, l3_5, l4_5, l5_5 =>
    if p1 ≤ l5_5 then
      let r9 : Int32 := gsX_X10_commonDivisor_1 NF l4_5 l3_5 v f
      if 1 ≤ r9 then
        if p2 = 0 then
          let t14 : Int32 := l3_5 / r9
          t14
        else
          let t13 : Int32 := l4_5 / r9
          t13
      else
        (-1)
    else
      let t17 : Int32 := 100 - (v 36)
      let t18 : Int32 := l3_5 * t17
      let t19 : Int32 := l4_5 * 100
      let t20 : Int32 := l5_5 + 1
      gsX_X10_odds_1_L5 NF p1 p2 v f n5 t18 t19 t20
def gsX_X10_odds_1 (NF : Nat) (p1 : Int32) (p2 : Int32) (v : Nat → Int32) (f : Nat → Nat → Int32) : Int32 :=
  if p1 < 0 then
    (-1)
  else
    if 4 < p1 then
      (-1)
    else
      if p2 < 0 then
        (-1)
      else
        if p2 ≤ 1 then
          gsX_X10_odds_1_L5 NF p1 p2 v f (4294967296 + NF) 1 1 0
        else
          (-1)
theorem gsX_X10_odds_1_q0 {NF : Nat} {p1 : Int32} {p2 : Int32} {v : Nat → Int32} {f : Nat → Nat → Int32} (h0 : (p1 < 0)) : gsX_X10_odds_1 NF p1 p2 v f = (-1) := by
  simp only [gsX_X10_odds_1, if_pos h0]
theorem gsX_X10_odds_1_q1 {NF : Nat} {p1 : Int32} {p2 : Int32} {v : Nat → Int32} {f : Nat → Nat → Int32} (h0 : ¬ (p1 < 0)) (h1 : (4 < p1)) : gsX_X10_odds_1 NF p1 p2 v f = (-1) := by
  simp only [gsX_X10_odds_1, if_neg h0, if_pos h1]
theorem gsX_X10_odds_1_q2 {NF : Nat} {p1 : Int32} {p2 : Int32} {v : Nat → Int32} {f : Nat → Nat → Int32} (h0 : ¬ (p1 < 0)) (h1 : ¬ (4 < p1)) (h2 : (p2 < 0)) : gsX_X10_odds_1 NF p1 p2 v f = (-1) := by
  simp only [gsX_X10_odds_1, if_neg h0, if_neg h1, if_pos h2]
theorem gsX_X10_odds_1_q7 {NF : Nat} {p1 : Int32} {p2 : Int32} {v : Nat → Int32} {f : Nat → Nat → Int32} (h0 : ¬ (p1 < 0)) (h1 : ¬ (4 < p1)) (h2 : ¬ (p2 < 0)) (h3 : (p2 ≤ 1)) : gsX_X10_odds_1 NF p1 p2 v f = gsX_X10_odds_1_L5 NF p1 p2 v f (4294967296 + NF) 1 1 0 := by
  simp only [gsX_X10_odds_1, if_neg h0, if_neg h1, if_neg h2, if_pos h3]
theorem gsX_X10_odds_1_q8 {NF : Nat} {p1 : Int32} {p2 : Int32} {v : Nat → Int32} {f : Nat → Nat → Int32} (h0 : ¬ (p1 < 0)) (h1 : ¬ (4 < p1)) (h2 : ¬ (p2 < 0)) (h3 : ¬ (p2 ≤ 1)) : gsX_X10_odds_1 NF p1 p2 v f = (-1) := by
  simp only [gsX_X10_odds_1, if_neg h0, if_neg h1, if_neg h2, if_neg h3]
theorem gsX_X10_odds_1_q3 {NF : Nat} {p1 : Int32} {p2 : Int32} {v : Nat → Int32} {f : Nat → Nat → Int32} {n5 : Nat} {l3_5 : Int32} {l4_5 : Int32} {l5_5 : Int32} {r9 : Int32} {t13 : Int32} (h0 : (p1 ≤ l5_5)) (h1 : r9 = gsX_X10_commonDivisor_1 NF l4_5 l3_5 v f) (h2 : (1 ≤ r9)) (h3 : ¬ (p2 = 0)) (h4 : t13 = l4_5 / r9) : gsX_X10_odds_1_L5 NF p1 p2 v f (n5 + 1) l3_5 l4_5 l5_5 = t13 := by
  subst h1 h4
  simp only [gsX_X10_odds_1_L5, if_pos h0, if_pos h2, if_neg h3]
theorem gsX_X10_odds_1_q4 {NF : Nat} {p1 : Int32} {p2 : Int32} {v : Nat → Int32} {f : Nat → Nat → Int32} {n5 : Nat} {l3_5 : Int32} {l4_5 : Int32} {l5_5 : Int32} {r9 : Int32} {t14 : Int32} (h0 : (p1 ≤ l5_5)) (h1 : r9 = gsX_X10_commonDivisor_1 NF l4_5 l3_5 v f) (h2 : (1 ≤ r9)) (h3 : (p2 = 0)) (h4 : t14 = l3_5 / r9) : gsX_X10_odds_1_L5 NF p1 p2 v f (n5 + 1) l3_5 l4_5 l5_5 = t14 := by
  subst h1 h4
  simp only [gsX_X10_odds_1_L5, if_pos h0, if_pos h2, if_pos h3]
theorem gsX_X10_odds_1_q5 {NF : Nat} {p1 : Int32} {p2 : Int32} {v : Nat → Int32} {f : Nat → Nat → Int32} {n5 : Nat} {l3_5 : Int32} {l4_5 : Int32} {l5_5 : Int32} {r9 : Int32} (h0 : (p1 ≤ l5_5)) (h1 : r9 = gsX_X10_commonDivisor_1 NF l4_5 l3_5 v f) (h2 : ¬ (1 ≤ r9)) : gsX_X10_odds_1_L5 NF p1 p2 v f (n5 + 1) l3_5 l4_5 l5_5 = (-1) := by
  subst h1
  simp only [gsX_X10_odds_1_L5, if_pos h0, if_neg h2]
theorem gsX_X10_odds_1_q6 {NF : Nat} {p1 : Int32} {p2 : Int32} {v : Nat → Int32} {f : Nat → Nat → Int32} {n5 : Nat} {l3_5 : Int32} {l4_5 : Int32} {l5_5 : Int32} {t17 : Int32} {t18 : Int32} {t19 : Int32} {t20 : Int32} (h0 : ¬ (p1 ≤ l5_5)) (h1 : t17 = 100 - (v 36)) (h2 : t18 = l3_5 * t17) (h3 : t19 = l4_5 * 100) (h4 : t20 = l5_5 + 1) : gsX_X10_odds_1_L5 NF p1 p2 v f (n5 + 1) l3_5 l4_5 l5_5 = gsX_X10_odds_1_L5 NF p1 p2 v f n5 t18 t19 t20 := by
  subst h1 h2 h3 h4
  simp only [gsX_X10_odds_1_L5, if_neg h0]
def gsX_X1_manWide_1 (NF : Nat) (p1 : Int32) (v : Nat → Int32) (f : Nat → Nat → Int32) : Int32 :=
  if gsX_X7_hasMan_1 NF p1 v f = 1 then
    let t4 : Int32 := f 15 (p1).toNatClampNeg
    t4
  else
    0
theorem gsX_X1_manWide_1_q0 {NF : Nat} {p1 : Int32} {v : Nat → Int32} {f : Nat → Nat → Int32} {t4 : Int32} (h0 : gsX_X7_hasMan_1 NF p1 v f = 1) (h1 : t4 = f 15 (p1).toNatClampNeg) : gsX_X1_manWide_1 NF p1 v f = t4 := by
  subst h1
  simp only [gsX_X1_manWide_1, h0, ite11, ite01, if_true, if_false]
theorem gsX_X1_manWide_1_q1 {NF : Nat} {p1 : Int32} {v : Nat → Int32} {f : Nat → Nat → Int32} (h0 : gsX_X7_hasMan_1 NF p1 v f = 0) : gsX_X1_manWide_1 NF p1 v f = 0 := by
  simp only [gsX_X1_manWide_1, h0, ite11, ite01, if_true, if_false]
def gsX_X1_part_1 (NF : Nat) (p1 : Int32) (p2 : Int32) (v : Nat → Int32) (f : Nat → Nat → Int32) : Int32 :=
  if gsX_X7_hasCoat_1 NF p2 v f = 1 then
    if p1 < 0 then
      0
    else
      if 5 ≤ p1 then
        0
      else
        let t6 : Int32 := p1 * 6
        let t8 : Int32 := 12 + t6
        let t10 : Int32 := t8 + p2
        let t13 : Int32 := f 15 (t10).toNatClampNeg
        t13
  else
    0
theorem gsX_X1_part_1_q0 {NF : Nat} {p1 : Int32} {p2 : Int32} {v : Nat → Int32} {f : Nat → Nat → Int32} (h0 : gsX_X7_hasCoat_1 NF p2 v f = 1) (h1 : (p1 < 0)) : gsX_X1_part_1 NF p1 p2 v f = 0 := by
  simp only [gsX_X1_part_1, h0, if_pos h1, ite11, ite01, if_true, if_false]
theorem gsX_X1_part_1_q1 {NF : Nat} {p1 : Int32} {p2 : Int32} {v : Nat → Int32} {f : Nat → Nat → Int32} (h0 : gsX_X7_hasCoat_1 NF p2 v f = 1) (h1 : ¬ (p1 < 0)) (h2 : (5 ≤ p1)) : gsX_X1_part_1 NF p1 p2 v f = 0 := by
  simp only [gsX_X1_part_1, h0, if_neg h1, if_pos h2, ite11, ite01, if_true, if_false]
theorem gsX_X1_part_1_q2 {NF : Nat} {p1 : Int32} {p2 : Int32} {v : Nat → Int32} {f : Nat → Nat → Int32} {t6 : Int32} {t8 : Int32} {t10 : Int32} {t13 : Int32} (h0 : gsX_X7_hasCoat_1 NF p2 v f = 1) (h1 : ¬ (p1 < 0)) (h2 : ¬ (5 ≤ p1)) (h3 : t6 = p1 * 6) (h4 : t8 = 12 + t6) (h5 : t10 = t8 + p2) (h6 : t13 = f 15 (t10).toNatClampNeg) : gsX_X1_part_1 NF p1 p2 v f = t13 := by
  subst h3 h4 h5 h6
  simp only [gsX_X1_part_1, h0, if_neg h1, if_neg h2, ite11, ite01, if_true, if_false]
theorem gsX_X1_part_1_q3 {NF : Nat} {p1 : Int32} {p2 : Int32} {v : Nat → Int32} {f : Nat → Nat → Int32} (h0 : gsX_X7_hasCoat_1 NF p2 v f = 0) : gsX_X1_part_1 NF p1 p2 v f = 0 := by
  simp only [gsX_X1_part_1, h0, ite11, ite01, if_true, if_false]
def gsX_X1_today_1 (NF : Nat) (v : Nat → Int32) (f : Nat → Nat → Int32) : Int32 :=
  let t1 : Int32 := f 15 (42 : Int32).toNatClampNeg
  t1
theorem gsX_X1_today_1_q0 {NF : Nat} {v : Nat → Int32} {f : Nat → Nat → Int32} {t1 : Int32} (h0 : t1 = f 15 (42 : Int32).toNatClampNeg) : gsX_X1_today_1 NF v f = t1 := by
  subst h0
  simp only [gsX_X1_today_1]
def gsX_X4_joined_1 (NF : Nat) (p0 : Int32) (p1 : Int32) (p2 : Int32) (v : Nat → Int32) (f : Nat → Nat → Int32) : Int32 :=
  if p0 = 37 then
    if p2 = 0 then
      0
    else
      let t3 : Int32 := p1 - p1 / p2 * p2
      t3
  else
    if p0 = 42 then
      let t5 : Int32 := p1 * p2
      t5
    else
      if p0 = 43 then
        let t7 : Int32 := p1 + p2
        t7
      else
        if p0 = 45 then
          let t9 : Int32 := p1 - p2
          t9
        else
          if p0 = 47 then
            if p2 = 0 then
              0
            else
              let t12 : Int32 := p1 / p2
              t12
          else
            if p0 = 60 then
              if p2 ≤ p1 then
                0
              else
                1
            else
              if p0 = 61 then
                if p1 = p2 then
                  1
                else
                  0
              else
                if p0 = 62 then
                  if p1 ≤ p2 then
                    0
                  else
                    1
                else
                  if p0 = 113 then
                    if p1 = 0 then
                      if p2 = 0 then
                        0
                      else
                        1
                    else
                      1
                  else
                    if p0 = 114 then
                      if p1 = 0 then
                        0
                      else
                        if p2 = 0 then
                          0
                        else
                          1
                    else
                      0
theorem gsX_X4_joined_1_q0 {NF : Nat} {p0 : Int32} {p1 : Int32} {p2 : Int32} {v : Nat → Int32} {f : Nat → Nat → Int32} {t3 : Int32} (h0 : (p0 = 37)) (h1 : ¬ (p2 = 0)) (h2 : t3 = p1 - p1 / p2 * p2) : gsX_X4_joined_1 NF p0 p1 p2 v f = t3 := by
  subst h2
  simp only [gsX_X4_joined_1, if_pos h0, if_neg h1]
theorem gsX_X4_joined_1_q1 {NF : Nat} {p0 : Int32} {p1 : Int32} {p2 : Int32} {v : Nat → Int32} {f : Nat → Nat → Int32} (h0 : (p0 = 37)) (h1 : (p2 = 0)) : gsX_X4_joined_1 NF p0 p1 p2 v f = 0 := by
  simp only [gsX_X4_joined_1, if_pos h0, if_pos h1]
theorem gsX_X4_joined_1_q2 {NF : Nat} {p0 : Int32} {p1 : Int32} {p2 : Int32} {v : Nat → Int32} {f : Nat → Nat → Int32} {t5 : Int32} (h0 : ¬ (p0 = 37)) (h1 : (p0 = 42)) (h2 : t5 = p1 * p2) : gsX_X4_joined_1 NF p0 p1 p2 v f = t5 := by
  subst h2
  simp only [gsX_X4_joined_1, if_neg h0, if_pos h1]
theorem gsX_X4_joined_1_q3 {NF : Nat} {p0 : Int32} {p1 : Int32} {p2 : Int32} {v : Nat → Int32} {f : Nat → Nat → Int32} {t7 : Int32} (h0 : ¬ (p0 = 37)) (h1 : ¬ (p0 = 42)) (h2 : (p0 = 43)) (h3 : t7 = p1 + p2) : gsX_X4_joined_1 NF p0 p1 p2 v f = t7 := by
  subst h3
  simp only [gsX_X4_joined_1, if_neg h0, if_neg h1, if_pos h2]
theorem gsX_X4_joined_1_q4 {NF : Nat} {p0 : Int32} {p1 : Int32} {p2 : Int32} {v : Nat → Int32} {f : Nat → Nat → Int32} {t9 : Int32} (h0 : ¬ (p0 = 37)) (h1 : ¬ (p0 = 42)) (h2 : ¬ (p0 = 43)) (h3 : (p0 = 45)) (h4 : t9 = p1 - p2) : gsX_X4_joined_1 NF p0 p1 p2 v f = t9 := by
  subst h4
  simp only [gsX_X4_joined_1, if_neg h0, if_neg h1, if_neg h2, if_pos h3]
theorem gsX_X4_joined_1_q5 {NF : Nat} {p0 : Int32} {p1 : Int32} {p2 : Int32} {v : Nat → Int32} {f : Nat → Nat → Int32} {t12 : Int32} (h0 : ¬ (p0 = 37)) (h1 : ¬ (p0 = 42)) (h2 : ¬ (p0 = 43)) (h3 : ¬ (p0 = 45)) (h4 : (p0 = 47)) (h5 : ¬ (p2 = 0)) (h6 : t12 = p1 / p2) : gsX_X4_joined_1 NF p0 p1 p2 v f = t12 := by
  subst h6
  simp only [gsX_X4_joined_1, if_neg h0, if_neg h1, if_neg h2, if_neg h3, if_pos h4, if_neg h5]
theorem gsX_X4_joined_1_q6 {NF : Nat} {p0 : Int32} {p1 : Int32} {p2 : Int32} {v : Nat → Int32} {f : Nat → Nat → Int32} (h0 : ¬ (p0 = 37)) (h1 : ¬ (p0 = 42)) (h2 : ¬ (p0 = 43)) (h3 : ¬ (p0 = 45)) (h4 : (p0 = 47)) (h5 : (p2 = 0)) : gsX_X4_joined_1 NF p0 p1 p2 v f = 0 := by
  simp only [gsX_X4_joined_1, if_neg h0, if_neg h1, if_neg h2, if_neg h3, if_pos h4, if_pos h5]
theorem gsX_X4_joined_1_q7 {NF : Nat} {p0 : Int32} {p1 : Int32} {p2 : Int32} {v : Nat → Int32} {f : Nat → Nat → Int32} (h0 : ¬ (p0 = 37)) (h1 : ¬ (p0 = 42)) (h2 : ¬ (p0 = 43)) (h3 : ¬ (p0 = 45)) (h4 : ¬ (p0 = 47)) (h5 : (p0 = 60)) (h6 : (p2 ≤ p1)) : gsX_X4_joined_1 NF p0 p1 p2 v f = 0 := by
  simp only [gsX_X4_joined_1, if_neg h0, if_neg h1, if_neg h2, if_neg h3, if_neg h4, if_pos h5, if_pos h6]
theorem gsX_X4_joined_1_q8 {NF : Nat} {p0 : Int32} {p1 : Int32} {p2 : Int32} {v : Nat → Int32} {f : Nat → Nat → Int32} (h0 : ¬ (p0 = 37)) (h1 : ¬ (p0 = 42)) (h2 : ¬ (p0 = 43)) (h3 : ¬ (p0 = 45)) (h4 : ¬ (p0 = 47)) (h5 : (p0 = 60)) (h6 : ¬ (p2 ≤ p1)) : gsX_X4_joined_1 NF p0 p1 p2 v f = 1 := by
  simp only [gsX_X4_joined_1, if_neg h0, if_neg h1, if_neg h2, if_neg h3, if_neg h4, if_pos h5, if_neg h6]
theorem gsX_X4_joined_1_q9 {NF : Nat} {p0 : Int32} {p1 : Int32} {p2 : Int32} {v : Nat → Int32} {f : Nat → Nat → Int32} (h0 : ¬ (p0 = 37)) (h1 : ¬ (p0 = 42)) (h2 : ¬ (p0 = 43)) (h3 : ¬ (p0 = 45)) (h4 : ¬ (p0 = 47)) (h5 : ¬ (p0 = 60)) (h6 : (p0 = 61)) (h7 : ¬ (p1 = p2)) : gsX_X4_joined_1 NF p0 p1 p2 v f = 0 := by
  simp only [gsX_X4_joined_1, if_neg h0, if_neg h1, if_neg h2, if_neg h3, if_neg h4, if_neg h5, if_pos h6, if_neg h7]
theorem gsX_X4_joined_1_q10 {NF : Nat} {p0 : Int32} {p1 : Int32} {p2 : Int32} {v : Nat → Int32} {f : Nat → Nat → Int32} (h0 : ¬ (p0 = 37)) (h1 : ¬ (p0 = 42)) (h2 : ¬ (p0 = 43)) (h3 : ¬ (p0 = 45)) (h4 : ¬ (p0 = 47)) (h5 : ¬ (p0 = 60)) (h6 : (p0 = 61)) (h7 : (p1 = p2)) : gsX_X4_joined_1 NF p0 p1 p2 v f = 1 := by
  simp only [gsX_X4_joined_1, if_neg h0, if_neg h1, if_neg h2, if_neg h3, if_neg h4, if_neg h5, if_pos h6, if_pos h7]
theorem gsX_X4_joined_1_q11 {NF : Nat} {p0 : Int32} {p1 : Int32} {p2 : Int32} {v : Nat → Int32} {f : Nat → Nat → Int32} (h0 : ¬ (p0 = 37)) (h1 : ¬ (p0 = 42)) (h2 : ¬ (p0 = 43)) (h3 : ¬ (p0 = 45)) (h4 : ¬ (p0 = 47)) (h5 : ¬ (p0 = 60)) (h6 : ¬ (p0 = 61)) (h7 : (p0 = 62)) (h8 : (p1 ≤ p2)) : gsX_X4_joined_1 NF p0 p1 p2 v f = 0 := by
  simp only [gsX_X4_joined_1, if_neg h0, if_neg h1, if_neg h2, if_neg h3, if_neg h4, if_neg h5, if_neg h6, if_pos h7, if_pos h8]
theorem gsX_X4_joined_1_q12 {NF : Nat} {p0 : Int32} {p1 : Int32} {p2 : Int32} {v : Nat → Int32} {f : Nat → Nat → Int32} (h0 : ¬ (p0 = 37)) (h1 : ¬ (p0 = 42)) (h2 : ¬ (p0 = 43)) (h3 : ¬ (p0 = 45)) (h4 : ¬ (p0 = 47)) (h5 : ¬ (p0 = 60)) (h6 : ¬ (p0 = 61)) (h7 : (p0 = 62)) (h8 : ¬ (p1 ≤ p2)) : gsX_X4_joined_1 NF p0 p1 p2 v f = 1 := by
  simp only [gsX_X4_joined_1, if_neg h0, if_neg h1, if_neg h2, if_neg h3, if_neg h4, if_neg h5, if_neg h6, if_pos h7, if_neg h8]
theorem gsX_X4_joined_1_q13 {NF : Nat} {p0 : Int32} {p1 : Int32} {p2 : Int32} {v : Nat → Int32} {f : Nat → Nat → Int32} (h0 : ¬ (p0 = 37)) (h1 : ¬ (p0 = 42)) (h2 : ¬ (p0 = 43)) (h3 : ¬ (p0 = 45)) (h4 : ¬ (p0 = 47)) (h5 : ¬ (p0 = 60)) (h6 : ¬ (p0 = 61)) (h7 : ¬ (p0 = 62)) (h8 : (p0 = 113)) (h9 : ¬ (p1 = 0)) : gsX_X4_joined_1 NF p0 p1 p2 v f = 1 := by
  simp only [gsX_X4_joined_1, if_neg h0, if_neg h1, if_neg h2, if_neg h3, if_neg h4, if_neg h5, if_neg h6, if_neg h7, if_pos h8, if_neg h9]
theorem gsX_X4_joined_1_q14 {NF : Nat} {p0 : Int32} {p1 : Int32} {p2 : Int32} {v : Nat → Int32} {f : Nat → Nat → Int32} (h0 : ¬ (p0 = 37)) (h1 : ¬ (p0 = 42)) (h2 : ¬ (p0 = 43)) (h3 : ¬ (p0 = 45)) (h4 : ¬ (p0 = 47)) (h5 : ¬ (p0 = 60)) (h6 : ¬ (p0 = 61)) (h7 : ¬ (p0 = 62)) (h8 : (p0 = 113)) (h9 : (p1 = 0)) (h10 : (p2 = 0)) : gsX_X4_joined_1 NF p0 p1 p2 v f = 0 := by
  simp only [gsX_X4_joined_1, if_neg h0, if_neg h1, if_neg h2, if_neg h3, if_neg h4, if_neg h5, if_neg h6, if_neg h7, if_pos h8, if_pos h9, if_pos h10]
theorem gsX_X4_joined_1_q15 {NF : Nat} {p0 : Int32} {p1 : Int32} {p2 : Int32} {v : Nat → Int32} {f : Nat → Nat → Int32} (h0 : ¬ (p0 = 37)) (h1 : ¬ (p0 = 42)) (h2 : ¬ (p0 = 43)) (h3 : ¬ (p0 = 45)) (h4 : ¬ (p0 = 47)) (h5 : ¬ (p0 = 60)) (h6 : ¬ (p0 = 61)) (h7 : ¬ (p0 = 62)) (h8 : (p0 = 113)) (h9 : (p1 = 0)) (h10 : ¬ (p2 = 0)) : gsX_X4_joined_1 NF p0 p1 p2 v f = 1 := by
  simp only [gsX_X4_joined_1, if_neg h0, if_neg h1, if_neg h2, if_neg h3, if_neg h4, if_neg h5, if_neg h6, if_neg h7, if_pos h8, if_pos h9, if_neg h10]
theorem gsX_X4_joined_1_q16 {NF : Nat} {p0 : Int32} {p1 : Int32} {p2 : Int32} {v : Nat → Int32} {f : Nat → Nat → Int32} (h0 : ¬ (p0 = 37)) (h1 : ¬ (p0 = 42)) (h2 : ¬ (p0 = 43)) (h3 : ¬ (p0 = 45)) (h4 : ¬ (p0 = 47)) (h5 : ¬ (p0 = 60)) (h6 : ¬ (p0 = 61)) (h7 : ¬ (p0 = 62)) (h8 : ¬ (p0 = 113)) (h9 : (p0 = 114)) (h10 : (p1 = 0)) : gsX_X4_joined_1 NF p0 p1 p2 v f = 0 := by
  simp only [gsX_X4_joined_1, if_neg h0, if_neg h1, if_neg h2, if_neg h3, if_neg h4, if_neg h5, if_neg h6, if_neg h7, if_neg h8, if_pos h9, if_pos h10]
theorem gsX_X4_joined_1_q17 {NF : Nat} {p0 : Int32} {p1 : Int32} {p2 : Int32} {v : Nat → Int32} {f : Nat → Nat → Int32} (h0 : ¬ (p0 = 37)) (h1 : ¬ (p0 = 42)) (h2 : ¬ (p0 = 43)) (h3 : ¬ (p0 = 45)) (h4 : ¬ (p0 = 47)) (h5 : ¬ (p0 = 60)) (h6 : ¬ (p0 = 61)) (h7 : ¬ (p0 = 62)) (h8 : ¬ (p0 = 113)) (h9 : (p0 = 114)) (h10 : ¬ (p1 = 0)) (h11 : (p2 = 0)) : gsX_X4_joined_1 NF p0 p1 p2 v f = 0 := by
  simp only [gsX_X4_joined_1, if_neg h0, if_neg h1, if_neg h2, if_neg h3, if_neg h4, if_neg h5, if_neg h6, if_neg h7, if_neg h8, if_pos h9, if_neg h10, if_pos h11]
theorem gsX_X4_joined_1_q18 {NF : Nat} {p0 : Int32} {p1 : Int32} {p2 : Int32} {v : Nat → Int32} {f : Nat → Nat → Int32} (h0 : ¬ (p0 = 37)) (h1 : ¬ (p0 = 42)) (h2 : ¬ (p0 = 43)) (h3 : ¬ (p0 = 45)) (h4 : ¬ (p0 = 47)) (h5 : ¬ (p0 = 60)) (h6 : ¬ (p0 = 61)) (h7 : ¬ (p0 = 62)) (h8 : ¬ (p0 = 113)) (h9 : (p0 = 114)) (h10 : ¬ (p1 = 0)) (h11 : ¬ (p2 = 0)) : gsX_X4_joined_1 NF p0 p1 p2 v f = 1 := by
  simp only [gsX_X4_joined_1, if_neg h0, if_neg h1, if_neg h2, if_neg h3, if_neg h4, if_neg h5, if_neg h6, if_neg h7, if_neg h8, if_pos h9, if_neg h10, if_neg h11]
theorem gsX_X4_joined_1_q19 {NF : Nat} {p0 : Int32} {p1 : Int32} {p2 : Int32} {v : Nat → Int32} {f : Nat → Nat → Int32} (h0 : ¬ (p0 = 37)) (h1 : ¬ (p0 = 42)) (h2 : ¬ (p0 = 43)) (h3 : ¬ (p0 = 45)) (h4 : ¬ (p0 = 47)) (h5 : ¬ (p0 = 60)) (h6 : ¬ (p0 = 61)) (h7 : ¬ (p0 = 62)) (h8 : ¬ (p0 = 113)) (h9 : ¬ (p0 = 114)) : gsX_X4_joined_1 NF p0 p1 p2 v f = 0 := by
  simp only [gsX_X4_joined_1, if_neg h0, if_neg h1, if_neg h2, if_neg h3, if_neg h4, if_neg h5, if_neg h6, if_neg h7, if_neg h8, if_neg h9]
def gsX_X4_worth_1_L16 (NF : Nat) : Nat → (Int32) → (Int32) → (Nat → Int32) → (Nat → Nat → Int32) → Int32 × (Nat → Int32) × (Nat → Nat → Int32)
  | 0, _, _, _, _ => (0, (fun _ => 0), (fun _ _ => 0))
  | n16 + 1, l7_16, l8_16, v16, f16 =>
    if (v16 18) ≤ l8_16 then
      let t20 : Int32 := f16 13 (0 : Int32).toNatClampNeg
      let t21 : Int32 := if t20 < (999 : Int32) then t20 else (999 : Int32)
      let t22 : Int32 := if (0 : Int32) < t21 then t21 else (0 : Int32)
      (t22, v16, f16)
    else
      if 300 ≤ l8_16 then
        let t26 : Int32 := f16 13 (0 : Int32).toNatClampNeg
        let t27 : Int32 := if t26 < (999 : Int32) then t26 else (999 : Int32)
        let t28 : Int32 := if (0 : Int32) < t27 then t27 else (0 : Int32)
        (t28, v16, f16)
      else
        let t29 : Int32 := f16 11 (l8_16).toNatClampNeg
        if t29 = 2 then
          if 30 ≤ l7_16 then
            let t32 : Int32 := l8_16 + 1
            gsX_X4_worth_1_L16 NF n16 l7_16 t32 v16 f16
          else
            if t29 = 2 then
              let t45 : Int32 := f16 12 (l8_16).toNatClampNeg
              let f46 : Nat → Nat → Int32 := upd2 f16 13 (upd (f16 13) l7_16.toNatClampNeg t45)
              let t47 : Int32 := l7_16 + 1
              let t49 : Int32 := l8_16 + 1
              gsX_X4_worth_1_L16 NF n16 t47 t49 v16 f46
            else
              let t36 : Int32 := t29 - 116
              let t38 : Int32 := f16 14 (t36).toNatClampNeg
              let f39 : Nat → Nat → Int32 := upd2 f16 13 (upd (f16 13) l7_16.toNatClampNeg t38)
              let t40 : Int32 := l7_16 + 1
              let t42 : Int32 := l8_16 + 1
              gsX_X4_worth_1_L16 NF n16 t40 t42 v16 f39
        else
          if t29 < 116 then
            if t29 = 115 then
              if l7_16 < 1 then
                if l7_16 < 2 then
                  let t72 : Int32 := l8_16 + 1
                  gsX_X4_worth_1_L16 NF n16 l7_16 t72 v16 f16
                else
                  let t75 : Int32 := l7_16 - 2
                  let t77 : Int32 := f16 13 (t75).toNatClampNeg
                  let t78 : Int32 := l7_16 - 1
                  let t79 : Int32 := f16 13 (t78).toNatClampNeg
                  let r80 : Int32 := gsX_X4_joined_1 NF t29 t77 t79 v16 f16
                  let f82 : Nat → Nat → Int32 := upd2 f16 13 (upd (f16 13) t75.toNatClampNeg r80)
                  let t83 : Int32 := l7_16 + (-1)
                  let t84 : Int32 := l8_16 + 1
                  gsX_X4_worth_1_L16 NF n16 t83 t84 v16 f82
              else
                let t87 : Int32 := l7_16 - 1
                let t89 : Int32 := f16 13 (t87).toNatClampNeg
                if t89 = 0 then
                  let f94 : Nat → Nat → Int32 := upd2 f16 13 (upd (f16 13) t87.toNatClampNeg 1)
                  let t95 : Int32 := l8_16 + 1
                  gsX_X4_worth_1_L16 NF n16 l7_16 t95 v16 f94
                else
                  let f91 : Nat → Nat → Int32 := upd2 f16 13 (upd (f16 13) t87.toNatClampNeg 0)
                  let t92 : Int32 := l8_16 + 1
                  gsX_X4_worth_1_L16 NF n16 l7_16 t92 v16 f91
            else
              if l7_16 < 2 then
                let t55 : Int32 := l8_16 + 1
                gsX_X4_worth_1_L16 NF n16 l7_16 t55 v16 f16
              else
                let t58 : Int32 := l7_16 - 2
                let t60 : Int32 := f16 13 (t58).toNatClampNeg
                let t61 : Int32 := l7_16 - 1
                let t62 : Int32 := f16 13 (t61).toNatClampNeg
                let r63 : Int32 := gsX_X4_joined_1 NF t29 t60 t62 v16 f16
                let f65 : Nat → Nat → Int32 := upd2 f16 13 (upd (f16 13) t58.toNatClampNeg r63)
                let t66 : Int32 := l7_16 + (-1)
                let t67 : Int32 := l8_16 + 1
                gsX_X4_worth_1_L16 NF n16 t66 t67 v16 f65
          else
            if 122 ≤ t29 then
              if t29 = 115 then
                if l7_16 < 1 then
                  if l7_16 < 2 then
                    let t117 : Int32 := l8_16 + 1
                    gsX_X4_worth_1_L16 NF n16 l7_16 t117 v16 f16
                  else
                    let t120 : Int32 := l7_16 - 2
                    let t122 : Int32 := f16 13 (t120).toNatClampNeg
                    let t123 : Int32 := l7_16 - 1
                    let t124 : Int32 := f16 13 (t123).toNatClampNeg
                    let r125 : Int32 := gsX_X4_joined_1 NF t29 t122 t124 v16 f16
                    let f127 : Nat → Nat → Int32 := upd2 f16 13 (upd (f16 13) t120.toNatClampNeg r125)
                    let t128 : Int32 := l7_16 + (-1)
                    let t129 : Int32 := l8_16 + 1
                    gsX_X4_worth_1_L16 NF n16 t128 t129 v16 f127
                else
                  let t132 : Int32 := l7_16 - 1
                  let t134 : Int32 := f16 13 (t132).toNatClampNeg
                  if t134 = 0 then
                    let f139 : Nat → Nat → Int32 := upd2 f16 13 (upd (f16 13) t132.toNatClampNeg 1)
                    let t140 : Int32 := l8_16 + 1
                    gsX_X4_worth_1_L16 NF n16 l7_16 t140 v16 f139
                  else
                    let f136 : Nat → Nat → Int32 := upd2 f16 13 (upd (f16 13) t132.toNatClampNeg 0)
                    let t137 : Int32 := l8_16 + 1
                    gsX_X4_worth_1_L16 NF n16 l7_16 t137 v16 f136
              else
                if l7_16 < 2 then
                  let t100 : Int32 := l8_16 + 1
                  gsX_X4_worth_1_L16 NF n16 l7_16 t100 v16 f16
                else
                  let t103 : Int32 := l7_16 - 2
                  let t105 : Int32 := f16 13 (t103).toNatClampNeg
                  let t106 : Int32 := l7_16 - 1
                  let t107 : Int32 := f16 13 (t106).toNatClampNeg
                  let r108 : Int32 := gsX_X4_joined_1 NF t29 t105 t107 v16 f16
                  let f110 : Nat → Nat → Int32 := upd2 f16 13 (upd (f16 13) t103.toNatClampNeg r108)
                  let t111 : Int32 := l7_16 + (-1)
                  let t112 : Int32 := l8_16 + 1
                  gsX_X4_worth_1_L16 NF n16 t111 t112 v16 f110
            else
              if 30 ≤ l7_16 then
                let t143 : Int32 := l8_16 + 1
                gsX_X4_worth_1_L16 NF n16 l7_16 t143 v16 f16
              else
                if t29 = 2 then
                  let t156 : Int32 := f16 12 (l8_16).toNatClampNeg
                  let f157 : Nat → Nat → Int32 := upd2 f16 13 (upd (f16 13) l7_16.toNatClampNeg t156)
                  let t158 : Int32 := l7_16 + 1
                  let t160 : Int32 := l8_16 + 1
                  gsX_X4_worth_1_L16 NF n16 t158 t160 v16 f157
                else
                  let t147 : Int32 := t29 - 116
                  let t149 : Int32 := f16 14 (t147).toNatClampNeg
                  let f150 : Nat → Nat → Int32 := upd2 f16 13 (upd (f16 13) l7_16.toNatClampNeg t149)
                  let t151 : Int32 := l7_16 + 1
                  let t153 : Int32 := l8_16 + 1
                  gsX_X4_worth_1_L16 NF n16 t151 t153 v16 f150
def gsX_X4_worth_1 (NF : Nat) (p1 : Int32) (p2 : Int32) (p3 : Int32) (p4 : Int32) (p5 : Int32) (p6 : Int32) (v : Nat → Int32) (f : Nat → Nat → Int32) : Int32 × (Nat → Int32) × (Nat → Nat → Int32) :=
  let t1 : Int32 := p2 - p4
  let t2 : Int32 := if (0 : Int32) < t1 then t1 else (0 : Int32)
  let f3 : Nat → Nat → Int32 := upd2 f 14 (upd (f 14) (0 : Int32).toNatClampNeg t2)
  let t4 : Int32 := p4 - p2
  let t5 : Int32 := if (0 : Int32) < t4 then t4 else (0 : Int32)
  let f6 : Nat → Nat → Int32 := upd2 f3 14 (upd (f3 14) (1 : Int32).toNatClampNeg t5)
  let t7 : Int32 := p1 - p3
  let t8 : Int32 := if (0 : Int32) < t7 then t7 else (0 : Int32)
  let f9 : Nat → Nat → Int32 := upd2 f6 14 (upd (f6 14) (2 : Int32).toNatClampNeg t8)
  let t10 : Int32 := p3 - p1
  let t11 : Int32 := if (0 : Int32) < t10 then t10 else (0 : Int32)
  let f12 : Nat → Nat → Int32 := upd2 f9 14 (upd (f9 14) (3 : Int32).toNatClampNeg t11)
  let f13 : Nat → Nat → Int32 := upd2 f12 14 (upd (f12 14) (4 : Int32).toNatClampNeg p5)
  let f14 : Nat → Nat → Int32 := upd2 f13 14 (upd (f13 14) (5 : Int32).toNatClampNeg p6)
  if (v 18) = 0 then
    let t163 : Int32 := f14 14 (0 : Int32).toNatClampNeg
    let t164 : Int32 := t163 * 3
    let t165 : Int32 := f14 14 (1 : Int32).toNatClampNeg
    let t166 : Int32 := t164 + t165
    let t167 : Int32 := f14 14 (2 : Int32).toNatClampNeg
    let t168 : Int32 := t167 * 2
    let t169 : Int32 := t166 + t168
    let t170 : Int32 := f14 14 (3 : Int32).toNatClampNeg
    let t171 : Int32 := t169 + t170
    let t172 : Int32 := t171 + p5
    let t173 : Int32 := if t172 < (999 : Int32) then t172 else (999 : Int32)
    (t173, v, f14)
  else
    gsX_X4_worth_1_L16 NF (4294967296 + NF) 0 0 v f14
theorem gsX_X4_worth_1_q20 {NF : Nat} {p1 : Int32} {p2 : Int32} {p3 : Int32} {p4 : Int32} {p5 : Int32} {p6 : Int32} {v : Nat → Int32} {f : Nat → Nat → Int32} {t1 : Int32} {t2 : Int32} {f3 : Nat → Nat → Int32} {t4 : Int32} {t5 : Int32} {f6 : Nat → Nat → Int32} {t7 : Int32} {t8 : Int32} {f9 : Nat → Nat → Int32} {t10 : Int32} {t11 : Int32} {f12 : Nat → Nat → Int32} {f13 : Nat → Nat → Int32} {f14 : Nat → Nat → Int32} (h0 : t1 = p2 - p4) (h1 : t2 = if (0 : Int32) < t1 then t1 else (0 : Int32)) (h2 : f3 = upd2 f 14 (upd (f 14) (0 : Int32).toNatClampNeg t2)) (h3 : t4 = p4 - p2) (h4 : t5 = if (0 : Int32) < t4 then t4 else (0 : Int32)) (h5 : f6 = upd2 f3 14 (upd (f3 14) (1 : Int32).toNatClampNeg t5)) (h6 : t7 = p1 - p3) (h7 : t8 = if (0 : Int32) < t7 then t7 else (0 : Int32)) (h8 : f9 = upd2 f6 14 (upd (f6 14) (2 : Int32).toNatClampNeg t8)) (h9 : t10 = p3 - p1) (h10 : t11 = if (0 : Int32) < t10 then t10 else (0 : Int32)) (h11 : f12 = upd2 f9 14 (upd (f9 14) (3 : Int32).toNatClampNeg t11)) (h12 : f13 = upd2 f12 14 (upd (f12 14) (4 : Int32).toNatClampNeg p5)) (h13 : f14 = upd2 f13 14 (upd (f13 14) (5 : Int32).toNatClampNeg p6)) (h14 : ¬ ((v 18) = 0)) : gsX_X4_worth_1 NF p1 p2 p3 p4 p5 p6 v f = gsX_X4_worth_1_L16 NF (4294967296 + NF) 0 0 v f14 := by
  subst h0 h1 h2 h3 h4 h5 h6 h7 h8 h9 h10 h11 h12 h13
  simp only [gsX_X4_worth_1, if_neg h14]
theorem gsX_X4_worth_1_q21 {NF : Nat} {p1 : Int32} {p2 : Int32} {p3 : Int32} {p4 : Int32} {p5 : Int32} {p6 : Int32} {v : Nat → Int32} {f : Nat → Nat → Int32} {t1 : Int32} {t2 : Int32} {f3 : Nat → Nat → Int32} {t4 : Int32} {t5 : Int32} {f6 : Nat → Nat → Int32} {t7 : Int32} {t8 : Int32} {f9 : Nat → Nat → Int32} {t10 : Int32} {t11 : Int32} {f12 : Nat → Nat → Int32} {f13 : Nat → Nat → Int32} {f14 : Nat → Nat → Int32} {t163 : Int32} {t164 : Int32} {t165 : Int32} {t166 : Int32} {t167 : Int32} {t168 : Int32} {t169 : Int32} {t170 : Int32} {t171 : Int32} {t172 : Int32} {t173 : Int32} (h0 : t1 = p2 - p4) (h1 : t2 = if (0 : Int32) < t1 then t1 else (0 : Int32)) (h2 : f3 = upd2 f 14 (upd (f 14) (0 : Int32).toNatClampNeg t2)) (h3 : t4 = p4 - p2) (h4 : t5 = if (0 : Int32) < t4 then t4 else (0 : Int32)) (h5 : f6 = upd2 f3 14 (upd (f3 14) (1 : Int32).toNatClampNeg t5)) (h6 : t7 = p1 - p3) (h7 : t8 = if (0 : Int32) < t7 then t7 else (0 : Int32)) (h8 : f9 = upd2 f6 14 (upd (f6 14) (2 : Int32).toNatClampNeg t8)) (h9 : t10 = p3 - p1) (h10 : t11 = if (0 : Int32) < t10 then t10 else (0 : Int32)) (h11 : f12 = upd2 f9 14 (upd (f9 14) (3 : Int32).toNatClampNeg t11)) (h12 : f13 = upd2 f12 14 (upd (f12 14) (4 : Int32).toNatClampNeg p5)) (h13 : f14 = upd2 f13 14 (upd (f13 14) (5 : Int32).toNatClampNeg p6)) (h14 : ((v 18) = 0)) (h15 : t163 = f14 14 (0 : Int32).toNatClampNeg) (h16 : t164 = t163 * 3) (h17 : t165 = f14 14 (1 : Int32).toNatClampNeg) (h18 : t166 = t164 + t165) (h19 : t167 = f14 14 (2 : Int32).toNatClampNeg) (h20 : t168 = t167 * 2) (h21 : t169 = t166 + t168) (h22 : t170 = f14 14 (3 : Int32).toNatClampNeg) (h23 : t171 = t169 + t170) (h24 : t172 = t171 + p5) (h25 : t173 = if t172 < (999 : Int32) then t172 else (999 : Int32)) : gsX_X4_worth_1 NF p1 p2 p3 p4 p5 p6 v f = (t173, v, f14) := by
  subst h0 h1 h2 h3 h4 h5 h6 h7 h8 h9 h10 h11 h12 h13 h15 h16 h17 h18 h19 h20 h21 h22 h23 h24 h25
  simp only [gsX_X4_worth_1, if_pos h14]
theorem gsX_X4_worth_1_q0 {NF : Nat} {n16 : Nat} {l7_16 : Int32} {l8_16 : Int32} {v16 : Nat → Int32} {f16 : Nat → Nat → Int32} {t20 : Int32} {t21 : Int32} {t22 : Int32} (h0 : ((v16 18) ≤ l8_16)) (h1 : t20 = f16 13 (0 : Int32).toNatClampNeg) (h2 : t21 = if t20 < (999 : Int32) then t20 else (999 : Int32)) (h3 : t22 = if (0 : Int32) < t21 then t21 else (0 : Int32)) : gsX_X4_worth_1_L16 NF (n16 + 1) l7_16 l8_16 v16 f16 = (t22, v16, f16) := by
  subst h1 h2 h3
  simp only [gsX_X4_worth_1_L16, if_pos h0]
theorem gsX_X4_worth_1_q1 {NF : Nat} {n16 : Nat} {l7_16 : Int32} {l8_16 : Int32} {v16 : Nat → Int32} {f16 : Nat → Nat → Int32} {t26 : Int32} {t27 : Int32} {t28 : Int32} (h0 : ¬ ((v16 18) ≤ l8_16)) (h1 : (300 ≤ l8_16)) (h2 : t26 = f16 13 (0 : Int32).toNatClampNeg) (h3 : t27 = if t26 < (999 : Int32) then t26 else (999 : Int32)) (h4 : t28 = if (0 : Int32) < t27 then t27 else (0 : Int32)) : gsX_X4_worth_1_L16 NF (n16 + 1) l7_16 l8_16 v16 f16 = (t28, v16, f16) := by
  subst h2 h3 h4
  simp only [gsX_X4_worth_1_L16, if_neg h0, if_pos h1]
theorem gsX_X4_worth_1_q2 {NF : Nat} {n16 : Nat} {l7_16 : Int32} {l8_16 : Int32} {v16 : Nat → Int32} {f16 : Nat → Nat → Int32} {t29 : Int32} {t32 : Int32} (h0 : ¬ ((v16 18) ≤ l8_16)) (h1 : ¬ (300 ≤ l8_16)) (h2 : t29 = f16 11 (l8_16).toNatClampNeg) (h3 : (t29 = 2)) (h4 : (30 ≤ l7_16)) (h5 : t32 = l8_16 + 1) : gsX_X4_worth_1_L16 NF (n16 + 1) l7_16 l8_16 v16 f16 = gsX_X4_worth_1_L16 NF n16 l7_16 t32 v16 f16 := by
  subst h2 h5
  simp only [gsX_X4_worth_1_L16, if_neg h0, if_neg h1, if_pos h3, if_pos h4]
theorem gsX_X4_worth_1_q3 {NF : Nat} {n16 : Nat} {l7_16 : Int32} {l8_16 : Int32} {v16 : Nat → Int32} {f16 : Nat → Nat → Int32} {t29 : Int32} {t36 : Int32} {t38 : Int32} {f39 : Nat → Nat → Int32} {t40 : Int32} {t42 : Int32} (h0 : ¬ ((v16 18) ≤ l8_16)) (h1 : ¬ (300 ≤ l8_16)) (h2 : t29 = f16 11 (l8_16).toNatClampNeg) (h3 : (t29 = 2)) (h4 : ¬ (30 ≤ l7_16)) (h5 : ¬ (t29 = 2)) (h6 : t36 = t29 - 116) (h7 : t38 = f16 14 (t36).toNatClampNeg) (h8 : f39 = upd2 f16 13 (upd (f16 13) l7_16.toNatClampNeg t38)) (h9 : t40 = l7_16 + 1) (h10 : t42 = l8_16 + 1) : gsX_X4_worth_1_L16 NF (n16 + 1) l7_16 l8_16 v16 f16 = gsX_X4_worth_1_L16 NF n16 t40 t42 v16 f39 := by
  exact absurd h3 h5
theorem gsX_X4_worth_1_q4 {NF : Nat} {n16 : Nat} {l7_16 : Int32} {l8_16 : Int32} {v16 : Nat → Int32} {f16 : Nat → Nat → Int32} {t29 : Int32} {t45 : Int32} {f46 : Nat → Nat → Int32} {t47 : Int32} {t49 : Int32} (h0 : ¬ ((v16 18) ≤ l8_16)) (h1 : ¬ (300 ≤ l8_16)) (h2 : t29 = f16 11 (l8_16).toNatClampNeg) (h3 : (t29 = 2)) (h4 : ¬ (30 ≤ l7_16)) (h5 : (t29 = 2)) (h6 : t45 = f16 12 (l8_16).toNatClampNeg) (h7 : f46 = upd2 f16 13 (upd (f16 13) l7_16.toNatClampNeg t45)) (h8 : t47 = l7_16 + 1) (h9 : t49 = l8_16 + 1) : gsX_X4_worth_1_L16 NF (n16 + 1) l7_16 l8_16 v16 f16 = gsX_X4_worth_1_L16 NF n16 t47 t49 v16 f46 := by
  subst h2 h6 h7 h8 h9
  simp only [gsX_X4_worth_1_L16, if_neg h0, if_neg h1, if_pos h3, if_neg h4, if_pos h5]
theorem gsX_X4_worth_1_q5 {NF : Nat} {n16 : Nat} {l7_16 : Int32} {l8_16 : Int32} {v16 : Nat → Int32} {f16 : Nat → Nat → Int32} {t29 : Int32} {t55 : Int32} (h0 : ¬ ((v16 18) ≤ l8_16)) (h1 : ¬ (300 ≤ l8_16)) (h2 : t29 = f16 11 (l8_16).toNatClampNeg) (h3 : ¬ (t29 = 2)) (h4 : (t29 < 116)) (h5 : ¬ (t29 = 115)) (h6 : (l7_16 < 2)) (h7 : t55 = l8_16 + 1) : gsX_X4_worth_1_L16 NF (n16 + 1) l7_16 l8_16 v16 f16 = gsX_X4_worth_1_L16 NF n16 l7_16 t55 v16 f16 := by
  subst h2 h7
  simp only [gsX_X4_worth_1_L16, if_neg h0, if_neg h1, if_neg h3, if_pos h4, if_neg h5, if_pos h6]
theorem gsX_X4_worth_1_q6 {NF : Nat} {n16 : Nat} {l7_16 : Int32} {l8_16 : Int32} {v16 : Nat → Int32} {f16 : Nat → Nat → Int32} {t29 : Int32} {t58 : Int32} {t60 : Int32} {t61 : Int32} {t62 : Int32} {r63 : Int32} {f65 : Nat → Nat → Int32} {t66 : Int32} {t67 : Int32} (h0 : ¬ ((v16 18) ≤ l8_16)) (h1 : ¬ (300 ≤ l8_16)) (h2 : t29 = f16 11 (l8_16).toNatClampNeg) (h3 : ¬ (t29 = 2)) (h4 : (t29 < 116)) (h5 : ¬ (t29 = 115)) (h6 : ¬ (l7_16 < 2)) (h7 : t58 = l7_16 - 2) (h8 : t60 = f16 13 (t58).toNatClampNeg) (h9 : t61 = l7_16 - 1) (h10 : t62 = f16 13 (t61).toNatClampNeg) (h11 : r63 = gsX_X4_joined_1 NF t29 t60 t62 v16 f16) (h12 : f65 = upd2 f16 13 (upd (f16 13) t58.toNatClampNeg r63)) (h13 : t66 = l7_16 + (-1)) (h14 : t67 = l8_16 + 1) : gsX_X4_worth_1_L16 NF (n16 + 1) l7_16 l8_16 v16 f16 = gsX_X4_worth_1_L16 NF n16 t66 t67 v16 f65 := by
  subst h2 h7 h8 h9 h10 h11 h12 h13 h14
  simp only [gsX_X4_worth_1_L16, if_neg h0, if_neg h1, if_neg h3, if_pos h4, if_neg h5, if_neg h6]
theorem gsX_X4_worth_1_q7 {NF : Nat} {n16 : Nat} {l7_16 : Int32} {l8_16 : Int32} {v16 : Nat → Int32} {f16 : Nat → Nat → Int32} {t29 : Int32} {t72 : Int32} (h0 : ¬ ((v16 18) ≤ l8_16)) (h1 : ¬ (300 ≤ l8_16)) (h2 : t29 = f16 11 (l8_16).toNatClampNeg) (h3 : ¬ (t29 = 2)) (h4 : (t29 < 116)) (h5 : (t29 = 115)) (h6 : (l7_16 < 1)) (h7 : (l7_16 < 2)) (h8 : t72 = l8_16 + 1) : gsX_X4_worth_1_L16 NF (n16 + 1) l7_16 l8_16 v16 f16 = gsX_X4_worth_1_L16 NF n16 l7_16 t72 v16 f16 := by
  subst h2 h8
  simp only [gsX_X4_worth_1_L16, if_neg h0, if_neg h1, if_neg h3, if_pos h4, if_pos h5, if_pos h6, if_pos h7]
theorem gsX_X4_worth_1_q8 {NF : Nat} {n16 : Nat} {l7_16 : Int32} {l8_16 : Int32} {v16 : Nat → Int32} {f16 : Nat → Nat → Int32} {t29 : Int32} {t75 : Int32} {t77 : Int32} {t78 : Int32} {t79 : Int32} {r80 : Int32} {f82 : Nat → Nat → Int32} {t83 : Int32} {t84 : Int32} (h0 : ¬ ((v16 18) ≤ l8_16)) (h1 : ¬ (300 ≤ l8_16)) (h2 : t29 = f16 11 (l8_16).toNatClampNeg) (h3 : ¬ (t29 = 2)) (h4 : (t29 < 116)) (h5 : (t29 = 115)) (h6 : (l7_16 < 1)) (h7 : ¬ (l7_16 < 2)) (h8 : t75 = l7_16 - 2) (h9 : t77 = f16 13 (t75).toNatClampNeg) (h10 : t78 = l7_16 - 1) (h11 : t79 = f16 13 (t78).toNatClampNeg) (h12 : r80 = gsX_X4_joined_1 NF t29 t77 t79 v16 f16) (h13 : f82 = upd2 f16 13 (upd (f16 13) t75.toNatClampNeg r80)) (h14 : t83 = l7_16 + (-1)) (h15 : t84 = l8_16 + 1) : gsX_X4_worth_1_L16 NF (n16 + 1) l7_16 l8_16 v16 f16 = gsX_X4_worth_1_L16 NF n16 t83 t84 v16 f82 := by
  subst h2 h8 h9 h10 h11 h12 h13 h14 h15
  simp only [gsX_X4_worth_1_L16, if_neg h0, if_neg h1, if_neg h3, if_pos h4, if_pos h5, if_pos h6, if_neg h7]
theorem gsX_X4_worth_1_q9 {NF : Nat} {n16 : Nat} {l7_16 : Int32} {l8_16 : Int32} {v16 : Nat → Int32} {f16 : Nat → Nat → Int32} {t29 : Int32} {t87 : Int32} {t89 : Int32} {f91 : Nat → Nat → Int32} {t92 : Int32} (h0 : ¬ ((v16 18) ≤ l8_16)) (h1 : ¬ (300 ≤ l8_16)) (h2 : t29 = f16 11 (l8_16).toNatClampNeg) (h3 : ¬ (t29 = 2)) (h4 : (t29 < 116)) (h5 : (t29 = 115)) (h6 : ¬ (l7_16 < 1)) (h7 : t87 = l7_16 - 1) (h8 : t89 = f16 13 (t87).toNatClampNeg) (h9 : ¬ (t89 = 0)) (h10 : f91 = upd2 f16 13 (upd (f16 13) t87.toNatClampNeg 0)) (h11 : t92 = l8_16 + 1) : gsX_X4_worth_1_L16 NF (n16 + 1) l7_16 l8_16 v16 f16 = gsX_X4_worth_1_L16 NF n16 l7_16 t92 v16 f91 := by
  subst h2 h7 h8 h10 h11
  simp only [gsX_X4_worth_1_L16, if_neg h0, if_neg h1, if_neg h3, if_pos h4, if_pos h5, if_neg h6, if_neg h9]
theorem gsX_X4_worth_1_q10 {NF : Nat} {n16 : Nat} {l7_16 : Int32} {l8_16 : Int32} {v16 : Nat → Int32} {f16 : Nat → Nat → Int32} {t29 : Int32} {t87 : Int32} {t89 : Int32} {f94 : Nat → Nat → Int32} {t95 : Int32} (h0 : ¬ ((v16 18) ≤ l8_16)) (h1 : ¬ (300 ≤ l8_16)) (h2 : t29 = f16 11 (l8_16).toNatClampNeg) (h3 : ¬ (t29 = 2)) (h4 : (t29 < 116)) (h5 : (t29 = 115)) (h6 : ¬ (l7_16 < 1)) (h7 : t87 = l7_16 - 1) (h8 : t89 = f16 13 (t87).toNatClampNeg) (h9 : (t89 = 0)) (h10 : f94 = upd2 f16 13 (upd (f16 13) t87.toNatClampNeg 1)) (h11 : t95 = l8_16 + 1) : gsX_X4_worth_1_L16 NF (n16 + 1) l7_16 l8_16 v16 f16 = gsX_X4_worth_1_L16 NF n16 l7_16 t95 v16 f94 := by
  subst h2 h7 h8 h10 h11
  simp only [gsX_X4_worth_1_L16, if_neg h0, if_neg h1, if_neg h3, if_pos h4, if_pos h5, if_neg h6, if_pos h9]
theorem gsX_X4_worth_1_q11 {NF : Nat} {n16 : Nat} {l7_16 : Int32} {l8_16 : Int32} {v16 : Nat → Int32} {f16 : Nat → Nat → Int32} {t29 : Int32} {t100 : Int32} (h0 : ¬ ((v16 18) ≤ l8_16)) (h1 : ¬ (300 ≤ l8_16)) (h2 : t29 = f16 11 (l8_16).toNatClampNeg) (h3 : ¬ (t29 = 2)) (h4 : ¬ (t29 < 116)) (h5 : (122 ≤ t29)) (h6 : ¬ (t29 = 115)) (h7 : (l7_16 < 2)) (h8 : t100 = l8_16 + 1) : gsX_X4_worth_1_L16 NF (n16 + 1) l7_16 l8_16 v16 f16 = gsX_X4_worth_1_L16 NF n16 l7_16 t100 v16 f16 := by
  subst h2 h8
  simp only [gsX_X4_worth_1_L16, if_neg h0, if_neg h1, if_neg h3, if_neg h4, if_pos h5, if_neg h6, if_pos h7]
theorem gsX_X4_worth_1_q12 {NF : Nat} {n16 : Nat} {l7_16 : Int32} {l8_16 : Int32} {v16 : Nat → Int32} {f16 : Nat → Nat → Int32} {t29 : Int32} {t103 : Int32} {t105 : Int32} {t106 : Int32} {t107 : Int32} {r108 : Int32} {f110 : Nat → Nat → Int32} {t111 : Int32} {t112 : Int32} (h0 : ¬ ((v16 18) ≤ l8_16)) (h1 : ¬ (300 ≤ l8_16)) (h2 : t29 = f16 11 (l8_16).toNatClampNeg) (h3 : ¬ (t29 = 2)) (h4 : ¬ (t29 < 116)) (h5 : (122 ≤ t29)) (h6 : ¬ (t29 = 115)) (h7 : ¬ (l7_16 < 2)) (h8 : t103 = l7_16 - 2) (h9 : t105 = f16 13 (t103).toNatClampNeg) (h10 : t106 = l7_16 - 1) (h11 : t107 = f16 13 (t106).toNatClampNeg) (h12 : r108 = gsX_X4_joined_1 NF t29 t105 t107 v16 f16) (h13 : f110 = upd2 f16 13 (upd (f16 13) t103.toNatClampNeg r108)) (h14 : t111 = l7_16 + (-1)) (h15 : t112 = l8_16 + 1) : gsX_X4_worth_1_L16 NF (n16 + 1) l7_16 l8_16 v16 f16 = gsX_X4_worth_1_L16 NF n16 t111 t112 v16 f110 := by
  subst h2 h8 h9 h10 h11 h12 h13 h14 h15
  simp only [gsX_X4_worth_1_L16, if_neg h0, if_neg h1, if_neg h3, if_neg h4, if_pos h5, if_neg h6, if_neg h7]
theorem gsX_X4_worth_1_q13 {NF : Nat} {n16 : Nat} {l7_16 : Int32} {l8_16 : Int32} {v16 : Nat → Int32} {f16 : Nat → Nat → Int32} {t29 : Int32} {t117 : Int32} (h0 : ¬ ((v16 18) ≤ l8_16)) (h1 : ¬ (300 ≤ l8_16)) (h2 : t29 = f16 11 (l8_16).toNatClampNeg) (h3 : ¬ (t29 = 2)) (h4 : ¬ (t29 < 116)) (h5 : (122 ≤ t29)) (h6 : (t29 = 115)) (h7 : (l7_16 < 1)) (h8 : (l7_16 < 2)) (h9 : t117 = l8_16 + 1) : gsX_X4_worth_1_L16 NF (n16 + 1) l7_16 l8_16 v16 f16 = gsX_X4_worth_1_L16 NF n16 l7_16 t117 v16 f16 := by
  subst h2 h9
  simp only [gsX_X4_worth_1_L16, if_neg h0, if_neg h1, if_neg h3, if_neg h4, if_pos h5, if_pos h6, if_pos h7, if_pos h8]
theorem gsX_X4_worth_1_q14 {NF : Nat} {n16 : Nat} {l7_16 : Int32} {l8_16 : Int32} {v16 : Nat → Int32} {f16 : Nat → Nat → Int32} {t29 : Int32} {t120 : Int32} {t122 : Int32} {t123 : Int32} {t124 : Int32} {r125 : Int32} {f127 : Nat → Nat → Int32} {t128 : Int32} {t129 : Int32} (h0 : ¬ ((v16 18) ≤ l8_16)) (h1 : ¬ (300 ≤ l8_16)) (h2 : t29 = f16 11 (l8_16).toNatClampNeg) (h3 : ¬ (t29 = 2)) (h4 : ¬ (t29 < 116)) (h5 : (122 ≤ t29)) (h6 : (t29 = 115)) (h7 : (l7_16 < 1)) (h8 : ¬ (l7_16 < 2)) (h9 : t120 = l7_16 - 2) (h10 : t122 = f16 13 (t120).toNatClampNeg) (h11 : t123 = l7_16 - 1) (h12 : t124 = f16 13 (t123).toNatClampNeg) (h13 : r125 = gsX_X4_joined_1 NF t29 t122 t124 v16 f16) (h14 : f127 = upd2 f16 13 (upd (f16 13) t120.toNatClampNeg r125)) (h15 : t128 = l7_16 + (-1)) (h16 : t129 = l8_16 + 1) : gsX_X4_worth_1_L16 NF (n16 + 1) l7_16 l8_16 v16 f16 = gsX_X4_worth_1_L16 NF n16 t128 t129 v16 f127 := by
  subst h2 h9 h10 h11 h12 h13 h14 h15 h16
  simp only [gsX_X4_worth_1_L16, if_neg h0, if_neg h1, if_neg h3, if_neg h4, if_pos h5, if_pos h6, if_pos h7, if_neg h8]
theorem gsX_X4_worth_1_q15 {NF : Nat} {n16 : Nat} {l7_16 : Int32} {l8_16 : Int32} {v16 : Nat → Int32} {f16 : Nat → Nat → Int32} {t29 : Int32} {t132 : Int32} {t134 : Int32} {f136 : Nat → Nat → Int32} {t137 : Int32} (h0 : ¬ ((v16 18) ≤ l8_16)) (h1 : ¬ (300 ≤ l8_16)) (h2 : t29 = f16 11 (l8_16).toNatClampNeg) (h3 : ¬ (t29 = 2)) (h4 : ¬ (t29 < 116)) (h5 : (122 ≤ t29)) (h6 : (t29 = 115)) (h7 : ¬ (l7_16 < 1)) (h8 : t132 = l7_16 - 1) (h9 : t134 = f16 13 (t132).toNatClampNeg) (h10 : ¬ (t134 = 0)) (h11 : f136 = upd2 f16 13 (upd (f16 13) t132.toNatClampNeg 0)) (h12 : t137 = l8_16 + 1) : gsX_X4_worth_1_L16 NF (n16 + 1) l7_16 l8_16 v16 f16 = gsX_X4_worth_1_L16 NF n16 l7_16 t137 v16 f136 := by
  subst h2 h8 h9 h11 h12
  simp only [gsX_X4_worth_1_L16, if_neg h0, if_neg h1, if_neg h3, if_neg h4, if_pos h5, if_pos h6, if_neg h7, if_neg h10]
theorem gsX_X4_worth_1_q16 {NF : Nat} {n16 : Nat} {l7_16 : Int32} {l8_16 : Int32} {v16 : Nat → Int32} {f16 : Nat → Nat → Int32} {t29 : Int32} {t132 : Int32} {t134 : Int32} {f139 : Nat → Nat → Int32} {t140 : Int32} (h0 : ¬ ((v16 18) ≤ l8_16)) (h1 : ¬ (300 ≤ l8_16)) (h2 : t29 = f16 11 (l8_16).toNatClampNeg) (h3 : ¬ (t29 = 2)) (h4 : ¬ (t29 < 116)) (h5 : (122 ≤ t29)) (h6 : (t29 = 115)) (h7 : ¬ (l7_16 < 1)) (h8 : t132 = l7_16 - 1) (h9 : t134 = f16 13 (t132).toNatClampNeg) (h10 : (t134 = 0)) (h11 : f139 = upd2 f16 13 (upd (f16 13) t132.toNatClampNeg 1)) (h12 : t140 = l8_16 + 1) : gsX_X4_worth_1_L16 NF (n16 + 1) l7_16 l8_16 v16 f16 = gsX_X4_worth_1_L16 NF n16 l7_16 t140 v16 f139 := by
  subst h2 h8 h9 h11 h12
  simp only [gsX_X4_worth_1_L16, if_neg h0, if_neg h1, if_neg h3, if_neg h4, if_pos h5, if_pos h6, if_neg h7, if_pos h10]
theorem gsX_X4_worth_1_q17 {NF : Nat} {n16 : Nat} {l7_16 : Int32} {l8_16 : Int32} {v16 : Nat → Int32} {f16 : Nat → Nat → Int32} {t29 : Int32} {t143 : Int32} (h0 : ¬ ((v16 18) ≤ l8_16)) (h1 : ¬ (300 ≤ l8_16)) (h2 : t29 = f16 11 (l8_16).toNatClampNeg) (h3 : ¬ (t29 = 2)) (h4 : ¬ (t29 < 116)) (h5 : ¬ (122 ≤ t29)) (h6 : (30 ≤ l7_16)) (h7 : t143 = l8_16 + 1) : gsX_X4_worth_1_L16 NF (n16 + 1) l7_16 l8_16 v16 f16 = gsX_X4_worth_1_L16 NF n16 l7_16 t143 v16 f16 := by
  subst h2 h7
  simp only [gsX_X4_worth_1_L16, if_neg h0, if_neg h1, if_neg h3, if_neg h4, if_neg h5, if_pos h6]
theorem gsX_X4_worth_1_q18 {NF : Nat} {n16 : Nat} {l7_16 : Int32} {l8_16 : Int32} {v16 : Nat → Int32} {f16 : Nat → Nat → Int32} {t29 : Int32} {t147 : Int32} {t149 : Int32} {f150 : Nat → Nat → Int32} {t151 : Int32} {t153 : Int32} (h0 : ¬ ((v16 18) ≤ l8_16)) (h1 : ¬ (300 ≤ l8_16)) (h2 : t29 = f16 11 (l8_16).toNatClampNeg) (h3 : ¬ (t29 = 2)) (h4 : ¬ (t29 < 116)) (h5 : ¬ (122 ≤ t29)) (h6 : ¬ (30 ≤ l7_16)) (h7 : ¬ (t29 = 2)) (h8 : t147 = t29 - 116) (h9 : t149 = f16 14 (t147).toNatClampNeg) (h10 : f150 = upd2 f16 13 (upd (f16 13) l7_16.toNatClampNeg t149)) (h11 : t151 = l7_16 + 1) (h12 : t153 = l8_16 + 1) : gsX_X4_worth_1_L16 NF (n16 + 1) l7_16 l8_16 v16 f16 = gsX_X4_worth_1_L16 NF n16 t151 t153 v16 f150 := by
  subst h2 h8 h9 h10 h11 h12
  simp only [gsX_X4_worth_1_L16, if_neg h0, if_neg h1, if_neg h3, if_neg h4, if_neg h5, if_neg h6, if_neg h7]
theorem gsX_X4_worth_1_q19 {NF : Nat} {n16 : Nat} {l7_16 : Int32} {l8_16 : Int32} {v16 : Nat → Int32} {f16 : Nat → Nat → Int32} {t29 : Int32} {t156 : Int32} {f157 : Nat → Nat → Int32} {t158 : Int32} {t160 : Int32} (h0 : ¬ ((v16 18) ≤ l8_16)) (h1 : ¬ (300 ≤ l8_16)) (h2 : t29 = f16 11 (l8_16).toNatClampNeg) (h3 : ¬ (t29 = 2)) (h4 : ¬ (t29 < 116)) (h5 : ¬ (122 ≤ t29)) (h6 : ¬ (30 ≤ l7_16)) (h7 : (t29 = 2)) (h8 : t156 = f16 12 (l8_16).toNatClampNeg) (h9 : f157 = upd2 f16 13 (upd (f16 13) l7_16.toNatClampNeg t156)) (h10 : t158 = l7_16 + 1) (h11 : t160 = l8_16 + 1) : gsX_X4_worth_1_L16 NF (n16 + 1) l7_16 l8_16 v16 f16 = gsX_X4_worth_1_L16 NF n16 t158 t160 v16 f157 := by
  exact absurd h7 h3
def gsX_X1_illness_1 (NF : Nat) (p1 : Int32) (p2 : Int32) (v : Nat → Int32) (f : Nat → Nat → Int32) : Int32 × (Nat → Int32) × (Nat → Nat → Int32) :=
  let r1 : Int32 := gsX_X7_manPart_1 NF 0 p1 v f
  let r3 : Int32 := gsX_X1_manWide_1 NF p1 v f
  let r5 : Int32 := gsX_X1_part_1 NF 0 p2 v f
  let r7 : Int32 := gsX_X1_part_1 NF 1 p2 v f
  let r9 : Int32 := gsX_X1_part_1 NF 3 p2 v f
  let r11 : Int32 := gsX_X1_today_1 NF v f
  match gsX_X4_worth_1 NF r1 r3 r5 r7 r9 r11 v f with
  | (r13, v15, f16) =>
    (r13, v15, f16)
theorem gsX_X1_illness_1_q0 {NF : Nat} {p1 : Int32} {p2 : Int32} {v : Nat → Int32} {f : Nat → Nat → Int32} {r1 : Int32} {r3 : Int32} {r5 : Int32} {r7 : Int32} {r9 : Int32} {r11 : Int32} {r13 : Int32} {v15 : Nat → Int32} {f16 : Nat → Nat → Int32} (h0 : r1 = gsX_X7_manPart_1 NF 0 p1 v f) (h1 : r3 = gsX_X1_manWide_1 NF p1 v f) (h2 : r5 = gsX_X1_part_1 NF 0 p2 v f) (h3 : r7 = gsX_X1_part_1 NF 1 p2 v f) (h4 : r9 = gsX_X1_part_1 NF 3 p2 v f) (h5 : r11 = gsX_X1_today_1 NF v f) (h6 : gsX_X4_worth_1 NF r1 r3 r5 r7 r9 r11 v f = (r13, v15, f16)) : gsX_X1_illness_1 NF p1 p2 v f = (r13, v15, f16) := by
  subst h0 h1 h2 h3 h4 h5
  simp only [gsX_X1_illness_1, h6]
def gsX_X10_misfit_1 (NF : Nat) (p1 : Int32) (p2 : Int32) (v : Nat → Int32) (f : Nat → Nat → Int32) : Int32 × (Nat → Int32) × (Nat → Nat → Int32) :=
  if gsX_X7_hasMan_1 NF p1 v f = 1 then
    if gsX_X7_hasCoat_1 NF p2 v f = 1 then
      match gsX_X1_illness_1 NF p1 p2 v f with
      | (r7, v9, f10) =>
        (r7, v9, f10)
    else
      ((-1), v, f)
  else
    ((-1), v, f)
theorem gsX_X10_misfit_1_q0 {NF : Nat} {p1 : Int32} {p2 : Int32} {v : Nat → Int32} {f : Nat → Nat → Int32} {r7 : Int32} {v9 : Nat → Int32} {f10 : Nat → Nat → Int32} (h0 : gsX_X7_hasMan_1 NF p1 v f = 1) (h1 : gsX_X7_hasCoat_1 NF p2 v f = 1) (h2 : gsX_X1_illness_1 NF p1 p2 v f = (r7, v9, f10)) : gsX_X10_misfit_1 NF p1 p2 v f = (r7, v9, f10) := by
  simp only [gsX_X10_misfit_1, h0, h1, h2, ite11, ite01, if_true, if_false]
theorem gsX_X10_misfit_1_q1 {NF : Nat} {p1 : Int32} {p2 : Int32} {v : Nat → Int32} {f : Nat → Nat → Int32} (h0 : gsX_X7_hasMan_1 NF p1 v f = 1) (h1 : gsX_X7_hasCoat_1 NF p2 v f = 0) : gsX_X10_misfit_1 NF p1 p2 v f = ((-1), v, f) := by
  simp only [gsX_X10_misfit_1, h0, h1, ite11, ite01, if_true, if_false]
theorem gsX_X10_misfit_1_q2 {NF : Nat} {p1 : Int32} {p2 : Int32} {v : Nat → Int32} {f : Nat → Nat → Int32} (h0 : gsX_X7_hasMan_1 NF p1 v f = 0) : gsX_X10_misfit_1 NF p1 p2 v f = ((-1), v, f) := by
  simp only [gsX_X10_misfit_1, h0, ite11, ite01, if_true, if_false]
def gsX_X1_wears_1 (NF : Nat) (p1 : Int32) (v : Nat → Int32) (f : Nat → Nat → Int32) : Int32 :=
  if gsX_X7_hasMan_1 NF p1 v f = 1 then
    let t4 : Int32 := 6 + p1
    let t6 : Int32 := f 15 (t4).toNatClampNeg
    t6
  else
    (-1)
theorem gsX_X1_wears_1_q0 {NF : Nat} {p1 : Int32} {v : Nat → Int32} {f : Nat → Nat → Int32} {t4 : Int32} {t6 : Int32} (h0 : gsX_X7_hasMan_1 NF p1 v f = 1) (h1 : t4 = 6 + p1) (h2 : t6 = f 15 (t4).toNatClampNeg) : gsX_X1_wears_1 NF p1 v f = t6 := by
  subst h1 h2
  simp only [gsX_X1_wears_1, h0, ite11, ite01, if_true, if_false]
theorem gsX_X1_wears_1_q1 {NF : Nat} {p1 : Int32} {v : Nat → Int32} {f : Nat → Nat → Int32} (h0 : gsX_X7_hasMan_1 NF p1 v f = 0) : gsX_X1_wears_1 NF p1 v f = (-1) := by
  simp only [gsX_X1_wears_1, h0, ite11, ite01, if_true, if_false]
def gsX_X1_fits_1 (NF : Nat) (p1 : Int32) (p2 : Int32) (v : Nat → Int32) (f : Nat → Nat → Int32) : Int32 × (Nat → Int32) × (Nat → Nat → Int32) :=
  if gsX_X7_hasMan_1 NF p1 v f = 1 then
    if gsX_X7_hasCoat_1 NF p2 v f = 1 then
      match gsX_X1_illness_1 NF p1 p2 v f with
      | (r7, v9, f10) =>
        if (v9 33) < r7 then
          (0, v9, f10)
        else
          (1, v9, f10)
    else
      (0, v, f)
  else
    (0, v, f)
theorem gsX_X1_fits_1_q0 {NF : Nat} {p1 : Int32} {p2 : Int32} {v : Nat → Int32} {f : Nat → Nat → Int32} {r7 : Int32} {v9 : Nat → Int32} {f10 : Nat → Nat → Int32} (h0 : gsX_X7_hasMan_1 NF p1 v f = 1) (h1 : gsX_X7_hasCoat_1 NF p2 v f = 1) (h2 : gsX_X1_illness_1 NF p1 p2 v f = (r7, v9, f10)) (h3 : ((v9 33) < r7)) : gsX_X1_fits_1 NF p1 p2 v f = (0, v9, f10) := by
  simp only [gsX_X1_fits_1, h0, h1, h2, if_pos h3, ite11, ite01, if_true, if_false]
theorem gsX_X1_fits_1_q1 {NF : Nat} {p1 : Int32} {p2 : Int32} {v : Nat → Int32} {f : Nat → Nat → Int32} {r7 : Int32} {v9 : Nat → Int32} {f10 : Nat → Nat → Int32} (h0 : gsX_X7_hasMan_1 NF p1 v f = 1) (h1 : gsX_X7_hasCoat_1 NF p2 v f = 1) (h2 : gsX_X1_illness_1 NF p1 p2 v f = (r7, v9, f10)) (h3 : ¬ ((v9 33) < r7)) : gsX_X1_fits_1 NF p1 p2 v f = (1, v9, f10) := by
  simp only [gsX_X1_fits_1, h0, h1, h2, if_neg h3, ite11, ite01, if_true, if_false]
theorem gsX_X1_fits_1_q2 {NF : Nat} {p1 : Int32} {p2 : Int32} {v : Nat → Int32} {f : Nat → Nat → Int32} (h0 : gsX_X7_hasMan_1 NF p1 v f = 1) (h1 : gsX_X7_hasCoat_1 NF p2 v f = 0) : gsX_X1_fits_1 NF p1 p2 v f = (0, v, f) := by
  simp only [gsX_X1_fits_1, h0, h1, ite11, ite01, if_true, if_false]
theorem gsX_X1_fits_1_q3 {NF : Nat} {p1 : Int32} {p2 : Int32} {v : Nat → Int32} {f : Nat → Nat → Int32} (h0 : gsX_X7_hasMan_1 NF p1 v f = 0) : gsX_X1_fits_1 NF p1 p2 v f = (0, v, f) := by
  simp only [gsX_X1_fits_1, h0, ite11, ite01, if_true, if_false]
def gsX_X1_setWears_1 (NF : Nat) (p1 : Int32) (p2 : Int32) (v : Nat → Int32) (f : Nat → Nat → Int32) : (Nat → Int32) × (Nat → Nat → Int32) :=
  if gsX_X7_hasMan_1 NF p1 v f = 1 then
    let t4 : Int32 := 6 + p1
    let f6 : Nat → Nat → Int32 := upd2 f 15 (upd (f 15) t4.toNatClampNeg p2)
    (v, f6)
  else
    (v, f)
theorem gsX_X1_setWears_1_q0 {NF : Nat} {p1 : Int32} {p2 : Int32} {v : Nat → Int32} {f : Nat → Nat → Int32} {t4 : Int32} {f6 : Nat → Nat → Int32} (h0 : gsX_X7_hasMan_1 NF p1 v f = 1) (h1 : t4 = 6 + p1) (h2 : f6 = upd2 f 15 (upd (f 15) t4.toNatClampNeg p2)) : gsX_X1_setWears_1 NF p1 p2 v f = (v, f6) := by
  subst h1 h2
  simp only [gsX_X1_setWears_1, h0, ite11, ite01, if_true, if_false]
theorem gsX_X1_setWears_1_q1 {NF : Nat} {p1 : Int32} {p2 : Int32} {v : Nat → Int32} {f : Nat → Nat → Int32} (h0 : gsX_X7_hasMan_1 NF p1 v f = 0) : gsX_X1_setWears_1 NF p1 p2 v f = (v, f) := by
  simp only [gsX_X1_setWears_1, h0, ite11, ite01, if_true, if_false]
def gsX_X1_setPart_1 (NF : Nat) (p1 : Int32) (p2 : Int32) (p3 : Int32) (v : Nat → Int32) (f : Nat → Nat → Int32) : (Nat → Int32) × (Nat → Nat → Int32) :=
  if gsX_X7_hasCoat_1 NF p2 v f = 1 then
    if p1 < 0 then
      (v, f)
    else
      if 5 ≤ p1 then
        (v, f)
      else
        let t6 : Int32 := p1 * 6
        let t8 : Int32 := 12 + t6
        let t10 : Int32 := t8 + p2
        let f13 : Nat → Nat → Int32 := upd2 f 15 (upd (f 15) t10.toNatClampNeg p3)
        (v, f13)
  else
    (v, f)
theorem gsX_X1_setPart_1_q0 {NF : Nat} {p1 : Int32} {p2 : Int32} {p3 : Int32} {v : Nat → Int32} {f : Nat → Nat → Int32} (h0 : gsX_X7_hasCoat_1 NF p2 v f = 1) (h1 : (p1 < 0)) : gsX_X1_setPart_1 NF p1 p2 p3 v f = (v, f) := by
  simp only [gsX_X1_setPart_1, h0, if_pos h1, ite11, ite01, if_true, if_false]
theorem gsX_X1_setPart_1_q1 {NF : Nat} {p1 : Int32} {p2 : Int32} {p3 : Int32} {v : Nat → Int32} {f : Nat → Nat → Int32} (h0 : gsX_X7_hasCoat_1 NF p2 v f = 1) (h1 : ¬ (p1 < 0)) (h2 : (5 ≤ p1)) : gsX_X1_setPart_1 NF p1 p2 p3 v f = (v, f) := by
  simp only [gsX_X1_setPart_1, h0, if_neg h1, if_pos h2, ite11, ite01, if_true, if_false]
theorem gsX_X1_setPart_1_q2 {NF : Nat} {p1 : Int32} {p2 : Int32} {p3 : Int32} {v : Nat → Int32} {f : Nat → Nat → Int32} {t6 : Int32} {t8 : Int32} {t10 : Int32} {f13 : Nat → Nat → Int32} (h0 : gsX_X7_hasCoat_1 NF p2 v f = 1) (h1 : ¬ (p1 < 0)) (h2 : ¬ (5 ≤ p1)) (h3 : t6 = p1 * 6) (h4 : t8 = 12 + t6) (h5 : t10 = t8 + p2) (h6 : f13 = upd2 f 15 (upd (f 15) t10.toNatClampNeg p3)) : gsX_X1_setPart_1 NF p1 p2 p3 v f = (v, f13) := by
  subst h3 h4 h5 h6
  simp only [gsX_X1_setPart_1, h0, if_neg h1, if_neg h2, ite11, ite01, if_true, if_false]
theorem gsX_X1_setPart_1_q3 {NF : Nat} {p1 : Int32} {p2 : Int32} {p3 : Int32} {v : Nat → Int32} {f : Nat → Nat → Int32} (h0 : gsX_X7_hasCoat_1 NF p2 v f = 0) : gsX_X1_setPart_1 NF p1 p2 p3 v f = (v, f) := by
  simp only [gsX_X1_setPart_1, h0, ite11, ite01, if_true, if_false]
def gsX_X1_weather_1 (NF : Nat) (p1 : Int32) (p2 : Int32) (v : Nat → Int32) (f : Nat → Nat → Int32) : (Nat → Int32) × (Nat → Nat → Int32) :=
  let r1 : Int32 := gsX_X1_part_1 NF 3 p1 v f
  let t3 : Int32 := r1 + 1
  let t4 : Int32 := if t3 < (99 : Int32) then t3 else (99 : Int32)
  match gsX_X1_setPart_1 NF 3 p1 t4 v f with
  | (v6, f7) =>
    let r8 : Int32 := gsX_X1_part_1 NF 1 p1 v6 f7
    let t10 : Int32 := r8 - p2
    let t11 : Int32 := if (0 : Int32) < t10 then t10 else (0 : Int32)
    match gsX_X1_setPart_1 NF 1 p1 t11 v6 f7 with
    | (v13, f14) =>
      let r15 : Int32 := gsX_X1_part_1 NF 0 p1 v13 f14
      let t17 : Int32 := r15 - p2
      let t18 : Int32 := if (0 : Int32) < t17 then t17 else (0 : Int32)
      match gsX_X1_setPart_1 NF 0 p1 t18 v13 f14 with
      | (v20, f21) =>
        (v20, f21)
theorem gsX_X1_weather_1_q0 {NF : Nat} {p1 : Int32} {p2 : Int32} {v : Nat → Int32} {f : Nat → Nat → Int32} {r1 : Int32} {t3 : Int32} {t4 : Int32} {v6 : Nat → Int32} {f7 : Nat → Nat → Int32} {r8 : Int32} {t10 : Int32} {t11 : Int32} {v13 : Nat → Int32} {f14 : Nat → Nat → Int32} {r15 : Int32} {t17 : Int32} {t18 : Int32} {v20 : Nat → Int32} {f21 : Nat → Nat → Int32} (h0 : r1 = gsX_X1_part_1 NF 3 p1 v f) (h1 : t3 = r1 + 1) (h2 : t4 = if t3 < (99 : Int32) then t3 else (99 : Int32)) (h3 : gsX_X1_setPart_1 NF 3 p1 t4 v f = (v6, f7)) (h4 : r8 = gsX_X1_part_1 NF 1 p1 v6 f7) (h5 : t10 = r8 - p2) (h6 : t11 = if (0 : Int32) < t10 then t10 else (0 : Int32)) (h7 : gsX_X1_setPart_1 NF 1 p1 t11 v6 f7 = (v13, f14)) (h8 : r15 = gsX_X1_part_1 NF 0 p1 v13 f14) (h9 : t17 = r15 - p2) (h10 : t18 = if (0 : Int32) < t17 then t17 else (0 : Int32)) (h11 : gsX_X1_setPart_1 NF 0 p1 t18 v13 f14 = (v20, f21)) : gsX_X1_weather_1 NF p1 p2 v f = (v20, f21) := by
  subst h0 h1 h2 h4 h5 h6 h8 h9 h10
  simp only [gsX_X1_weather_1, h3, h7, h11]
def gsX_X1_passDay_1_L21 (NF : Nat) (v : Nat → Int32) : Nat → (Int32) → (Int32) → (Nat → Int32) → (Nat → Nat → Int32) → Int32 × (Nat → Int32) × (Nat → Nat → Int32)
  | 0, _, _, _, _ => (0, (fun _ => 0), (fun _ _ => 0))
  | n21 + 1, l3_21, l4_21, v21, f21 =>
    if (v 31) ≤ l4_21 then
      (l3_21, v21, f21)
    else
      let r25 : Int32 := gsX_X1_wears_1 NF l4_21 v21 f21
      if r25 = (-1) then
        let t28 : Int32 := l4_21 + 1
        gsX_X1_passDay_1_L21 NF v n21 l3_21 t28 v21 f21
      else
        let r30 : Int32 := gsX_X1_wears_1 NF l4_21 v21 f21
        match gsX_X1_fits_1 NF l4_21 r30 v21 f21 with
        | (r32, v34, f35) =>
          if r32 = 1 then
            let t37 : Int32 := l4_21 + 1
            gsX_X1_passDay_1_L21 NF v n21 l3_21 t37 v34 f35
          else
            match gsX_X1_setWears_1 NF l4_21 (-1) v34 f35 with
            | (v40, f41) =>
              let t42 : Int32 := 1 <<< (l4_21 &&& 31)
              let t43 : Int32 := l3_21 ||| t42
              let t44 : Int32 := l4_21 + 1
              gsX_X1_passDay_1_L21 NF v n21 t43 t44 v40 f41
def gsX_X1_passDay_1_L15 (NF : Nat) (v : Nat → Int32) : Nat → (Int32) → (Nat → Int32) → (Nat → Nat → Int32) → Int32 × (Nat → Int32) × (Nat → Nat → Int32)
  | 0, _, _, _ => (0, (fun _ => 0), (fun _ _ => 0))
  | n15 + 1, l3_15, v15, f15 =>
    if (v 31) ≤ l3_15 then
      let t18 : Int32 := f15 15 (42 : Int32).toNatClampNeg
      let t19 : Int32 := t18 + 1
      let f20 : Nat → Nat → Int32 := upd2 f15 15 (upd (f15 15) (42 : Int32).toNatClampNeg t19)
      gsX_X1_passDay_1_L21 NF v (4294967296 + NF) 0 0 v15 f20
    else
      let r47 : Int32 := gsX_X1_wears_1 NF l3_15 v15 f15
      match gsX_X1_weather_1 NF r47 0 v15 f15 with
      | (v50, f51) =>
        let t52 : Int32 := l3_15 + 1
        gsX_X1_passDay_1_L15 NF v n15 t52 v50 f51
def gsX_X1_passDay_1_L62 (NF : Nat) (v : Nat → Int32) : Nat → (Int32) → (Int32) → (Nat → Int32) → (Nat → Nat → Int32) → Int32 × (Nat → Int32) × (Nat → Nat → Int32)
  | 0, _, _, _, _ => (0, (fun _ => 0), (fun _ _ => 0))
  | n62 + 1, l3_62, l4_62, v62, f62 =>
    if (v 31) ≤ l4_62 then
      (l3_62, v62, f62)
    else
      let r66 : Int32 := gsX_X1_wears_1 NF l4_62 v62 f62
      if r66 = (-1) then
        let t69 : Int32 := l4_62 + 1
        gsX_X1_passDay_1_L62 NF v n62 l3_62 t69 v62 f62
      else
        let r71 : Int32 := gsX_X1_wears_1 NF l4_62 v62 f62
        match gsX_X1_fits_1 NF l4_62 r71 v62 f62 with
        | (r73, v75, f76) =>
          if r73 = 1 then
            let t78 : Int32 := l4_62 + 1
            gsX_X1_passDay_1_L62 NF v n62 l3_62 t78 v75 f76
          else
            match gsX_X1_setWears_1 NF l4_62 (-1) v75 f76 with
            | (v81, f82) =>
              let t83 : Int32 := 1 <<< (l4_62 &&& 31)
              let t84 : Int32 := l3_62 ||| t83
              let t85 : Int32 := l4_62 + 1
              gsX_X1_passDay_1_L62 NF v n62 t84 t85 v81 f82
def gsX_X1_passDay_1_L56 (NF : Nat) (v : Nat → Int32) : Nat → (Int32) → (Nat → Int32) → (Nat → Nat → Int32) → Int32 × (Nat → Int32) × (Nat → Nat → Int32)
  | 0, _, _, _ => (0, (fun _ => 0), (fun _ _ => 0))
  | n56 + 1, l3_56, v56, f56 =>
    if (v 31) ≤ l3_56 then
      let t59 : Int32 := f56 15 (42 : Int32).toNatClampNeg
      let t60 : Int32 := t59 + 1
      let f61 : Nat → Nat → Int32 := upd2 f56 15 (upd (f56 15) (42 : Int32).toNatClampNeg t60)
      gsX_X1_passDay_1_L62 NF v (4294967296 + NF) 0 0 v56 f61
    else
      let r88 : Int32 := gsX_X1_wears_1 NF l3_56 v56 f56
      match gsX_X1_weather_1 NF r88 1 v56 f56 with
      | (v91, f92) =>
        let t93 : Int32 := l3_56 + 1
        gsX_X1_passDay_1_L56 NF v n56 t93 v91 f92
def gsX_X1_passDay_1_L1 (NF : Nat) (p1 : Int32) (v : Nat → Int32) : Nat → (Int32) → (Nat → Int32) → (Nat → Nat → Int32) → Int32 × (Nat → Int32) × (Nat → Nat → Int32)
  | 0, _, _, _ => (0, (fun _ => 0), (fun _ _ => 0))
  | n1 + 1, l2_1, v1, f1 =>
    if (v 31) ≤ l2_1 then
      let t5 : Int32 := f1 15 (43 : Int32).toNatClampNeg
      let t6 : Int32 := t5 * 137
      let t7 : Int32 := t6 + 71
      let t8 : Int32 := t7 - t7 / 1000 * 1000
      let f9 : Nat → Nat → Int32 := upd2 f1 15 (upd (f1 15) (43 : Int32).toNatClampNeg t8)
      let t10 : Int32 := f9 15 (43 : Int32).toNatClampNeg
      let t11 : Int32 := t10 - t10 / 100 * 100
      if p1 ≤ t11 then
        gsX_X1_passDay_1_L15 NF v (4294967296 + NF) 0 v1 f9
      else
        gsX_X1_passDay_1_L56 NF v (4294967296 + NF) 0 v1 f9
    else
      let t97 : Int32 := f1 15 (l2_1).toNatClampNeg
      let r98 : Int32 := gsX_X7_manPart_1 NF 2 l2_1 v1 f1
      let t100 : Int32 := t97 + r98
      let t101 : Int32 := if t100 < (99 : Int32) then t100 else (99 : Int32)
      let f102 : Nat → Nat → Int32 := upd2 f1 15 (upd (f1 15) l2_1.toNatClampNeg t101)
      let t103 : Int32 := l2_1 + 1
      gsX_X1_passDay_1_L1 NF p1 v n1 t103 v1 f102
def gsX_X1_passDay_1 (NF : Nat) (p1 : Int32) (v : Nat → Int32) (f : Nat → Nat → Int32) : Int32 × (Nat → Int32) × (Nat → Nat → Int32) :=
  gsX_X1_passDay_1_L1 NF p1 v (4294967296 + NF) 0 v f
theorem gsX_X1_passDay_1_q15 {NF : Nat} {p1 : Int32} {v : Nat → Int32} {f : Nat → Nat → Int32}  : gsX_X1_passDay_1 NF p1 v f = gsX_X1_passDay_1_L1 NF p1 v (4294967296 + NF) 0 v f := by
  simp only [gsX_X1_passDay_1]
theorem gsX_X1_passDay_1_q6 {NF : Nat} {p1 : Int32} {v : Nat → Int32} {n1 : Nat} {l2_1 : Int32} {v1 : Nat → Int32} {f1 : Nat → Nat → Int32} {t5 : Int32} {t6 : Int32} {t7 : Int32} {t8 : Int32} {f9 : Nat → Nat → Int32} {t10 : Int32} {t11 : Int32} (h0 : ((v 31) ≤ l2_1)) (h1 : t5 = f1 15 (43 : Int32).toNatClampNeg) (h2 : t6 = t5 * 137) (h3 : t7 = t6 + 71) (h4 : t8 = t7 - t7 / 1000 * 1000) (h5 : f9 = upd2 f1 15 (upd (f1 15) (43 : Int32).toNatClampNeg t8)) (h6 : t10 = f9 15 (43 : Int32).toNatClampNeg) (h7 : t11 = t10 - t10 / 100 * 100) (h8 : (p1 ≤ t11)) : gsX_X1_passDay_1_L1 NF p1 v (n1 + 1) l2_1 v1 f1 = gsX_X1_passDay_1_L15 NF v (4294967296 + NF) 0 v1 f9 := by
  subst h1 h2 h3 h4 h5 h6 h7
  simp only [gsX_X1_passDay_1_L1, if_pos h0, if_pos h8]
theorem gsX_X1_passDay_1_q13 {NF : Nat} {p1 : Int32} {v : Nat → Int32} {n1 : Nat} {l2_1 : Int32} {v1 : Nat → Int32} {f1 : Nat → Nat → Int32} {t5 : Int32} {t6 : Int32} {t7 : Int32} {t8 : Int32} {f9 : Nat → Nat → Int32} {t10 : Int32} {t11 : Int32} (h0 : ((v 31) ≤ l2_1)) (h1 : t5 = f1 15 (43 : Int32).toNatClampNeg) (h2 : t6 = t5 * 137) (h3 : t7 = t6 + 71) (h4 : t8 = t7 - t7 / 1000 * 1000) (h5 : f9 = upd2 f1 15 (upd (f1 15) (43 : Int32).toNatClampNeg t8)) (h6 : t10 = f9 15 (43 : Int32).toNatClampNeg) (h7 : t11 = t10 - t10 / 100 * 100) (h8 : ¬ (p1 ≤ t11)) : gsX_X1_passDay_1_L1 NF p1 v (n1 + 1) l2_1 v1 f1 = gsX_X1_passDay_1_L56 NF v (4294967296 + NF) 0 v1 f9 := by
  subst h1 h2 h3 h4 h5 h6 h7
  simp only [gsX_X1_passDay_1_L1, if_pos h0, if_neg h8]
theorem gsX_X1_passDay_1_q14 {NF : Nat} {p1 : Int32} {v : Nat → Int32} {n1 : Nat} {l2_1 : Int32} {v1 : Nat → Int32} {f1 : Nat → Nat → Int32} {t97 : Int32} {r98 : Int32} {t100 : Int32} {t101 : Int32} {f102 : Nat → Nat → Int32} {t103 : Int32} (h0 : ¬ ((v 31) ≤ l2_1)) (h1 : t97 = f1 15 (l2_1).toNatClampNeg) (h2 : r98 = gsX_X7_manPart_1 NF 2 l2_1 v1 f1) (h3 : t100 = t97 + r98) (h4 : t101 = if t100 < (99 : Int32) then t100 else (99 : Int32)) (h5 : f102 = upd2 f1 15 (upd (f1 15) l2_1.toNatClampNeg t101)) (h6 : t103 = l2_1 + 1) : gsX_X1_passDay_1_L1 NF p1 v (n1 + 1) l2_1 v1 f1 = gsX_X1_passDay_1_L1 NF p1 v n1 t103 v1 f102 := by
  subst h1 h2 h3 h4 h5 h6
  simp only [gsX_X1_passDay_1_L1, if_neg h0]
theorem gsX_X1_passDay_1_q4 {NF : Nat} {v : Nat → Int32} {n15 : Nat} {l3_15 : Int32} {v15 : Nat → Int32} {f15 : Nat → Nat → Int32} {t18 : Int32} {t19 : Int32} {f20 : Nat → Nat → Int32} (h0 : ((v 31) ≤ l3_15)) (h1 : t18 = f15 15 (42 : Int32).toNatClampNeg) (h2 : t19 = t18 + 1) (h3 : f20 = upd2 f15 15 (upd (f15 15) (42 : Int32).toNatClampNeg t19)) : gsX_X1_passDay_1_L15 NF v (n15 + 1) l3_15 v15 f15 = gsX_X1_passDay_1_L21 NF v (4294967296 + NF) 0 0 v15 f20 := by
  subst h1 h2 h3
  simp only [gsX_X1_passDay_1_L15, if_pos h0]
theorem gsX_X1_passDay_1_q5 {NF : Nat} {v : Nat → Int32} {n15 : Nat} {l3_15 : Int32} {v15 : Nat → Int32} {f15 : Nat → Nat → Int32} {r47 : Int32} {v50 : Nat → Int32} {f51 : Nat → Nat → Int32} {t52 : Int32} (h0 : ¬ ((v 31) ≤ l3_15)) (h1 : r47 = gsX_X1_wears_1 NF l3_15 v15 f15) (h2 : gsX_X1_weather_1 NF r47 0 v15 f15 = (v50, f51)) (h3 : t52 = l3_15 + 1) : gsX_X1_passDay_1_L15 NF v (n15 + 1) l3_15 v15 f15 = gsX_X1_passDay_1_L15 NF v n15 t52 v50 f51 := by
  subst h1 h3
  simp only [gsX_X1_passDay_1_L15, if_neg h0, h2]
theorem gsX_X1_passDay_1_q0 {NF : Nat} {v : Nat → Int32} {n21 : Nat} {l3_21 : Int32} {l4_21 : Int32} {v21 : Nat → Int32} {f21 : Nat → Nat → Int32} (h0 : ((v 31) ≤ l4_21)) : gsX_X1_passDay_1_L21 NF v (n21 + 1) l3_21 l4_21 v21 f21 = (l3_21, v21, f21) := by
  simp only [gsX_X1_passDay_1_L21, if_pos h0]
theorem gsX_X1_passDay_1_q1 {NF : Nat} {v : Nat → Int32} {n21 : Nat} {l3_21 : Int32} {l4_21 : Int32} {v21 : Nat → Int32} {f21 : Nat → Nat → Int32} {r25 : Int32} {t28 : Int32} (h0 : ¬ ((v 31) ≤ l4_21)) (h1 : r25 = gsX_X1_wears_1 NF l4_21 v21 f21) (h2 : (r25 = (-1))) (h3 : t28 = l4_21 + 1) : gsX_X1_passDay_1_L21 NF v (n21 + 1) l3_21 l4_21 v21 f21 = gsX_X1_passDay_1_L21 NF v n21 l3_21 t28 v21 f21 := by
  subst h1 h3
  simp only [gsX_X1_passDay_1_L21, if_neg h0, if_pos h2]
theorem gsX_X1_passDay_1_q2 {NF : Nat} {v : Nat → Int32} {n21 : Nat} {l3_21 : Int32} {l4_21 : Int32} {v21 : Nat → Int32} {f21 : Nat → Nat → Int32} {r25 : Int32} {r30 : Int32} {v34 : Nat → Int32} {f35 : Nat → Nat → Int32} {t37 : Int32} (h0 : ¬ ((v 31) ≤ l4_21)) (h1 : r25 = gsX_X1_wears_1 NF l4_21 v21 f21) (h2 : ¬ (r25 = (-1))) (h3 : r30 = gsX_X1_wears_1 NF l4_21 v21 f21) (h4 : gsX_X1_fits_1 NF l4_21 r30 v21 f21 = (1, v34, f35)) (h6 : t37 = l4_21 + 1) : gsX_X1_passDay_1_L21 NF v (n21 + 1) l3_21 l4_21 v21 f21 = gsX_X1_passDay_1_L21 NF v n21 l3_21 t37 v34 f35 := by
  subst h1 h3 h6
  simp only [gsX_X1_passDay_1_L21, if_neg h0, if_neg h2, h4, ite11, ite01, if_true, if_false]
theorem gsX_X1_passDay_1_q3 {NF : Nat} {v : Nat → Int32} {n21 : Nat} {l3_21 : Int32} {l4_21 : Int32} {v21 : Nat → Int32} {f21 : Nat → Nat → Int32} {r25 : Int32} {r30 : Int32} {v34 : Nat → Int32} {f35 : Nat → Nat → Int32} {v40 : Nat → Int32} {f41 : Nat → Nat → Int32} {t42 : Int32} {t43 : Int32} {t44 : Int32} (h0 : ¬ ((v 31) ≤ l4_21)) (h1 : r25 = gsX_X1_wears_1 NF l4_21 v21 f21) (h2 : ¬ (r25 = (-1))) (h3 : r30 = gsX_X1_wears_1 NF l4_21 v21 f21) (h4 : gsX_X1_fits_1 NF l4_21 r30 v21 f21 = (0, v34, f35)) (h6 : gsX_X1_setWears_1 NF l4_21 (-1) v34 f35 = (v40, f41)) (h7 : t42 = 1 <<< (l4_21 &&& 31)) (h8 : t43 = l3_21 ||| t42) (h9 : t44 = l4_21 + 1) : gsX_X1_passDay_1_L21 NF v (n21 + 1) l3_21 l4_21 v21 f21 = gsX_X1_passDay_1_L21 NF v n21 t43 t44 v40 f41 := by
  subst h1 h3 h7 h8 h9
  simp only [gsX_X1_passDay_1_L21, if_neg h0, if_neg h2, h4, h6, ite11, ite01, if_true, if_false]
theorem gsX_X1_passDay_1_q11 {NF : Nat} {v : Nat → Int32} {n56 : Nat} {l3_56 : Int32} {v56 : Nat → Int32} {f56 : Nat → Nat → Int32} {t59 : Int32} {t60 : Int32} {f61 : Nat → Nat → Int32} (h0 : ((v 31) ≤ l3_56)) (h1 : t59 = f56 15 (42 : Int32).toNatClampNeg) (h2 : t60 = t59 + 1) (h3 : f61 = upd2 f56 15 (upd (f56 15) (42 : Int32).toNatClampNeg t60)) : gsX_X1_passDay_1_L56 NF v (n56 + 1) l3_56 v56 f56 = gsX_X1_passDay_1_L62 NF v (4294967296 + NF) 0 0 v56 f61 := by
  subst h1 h2 h3
  simp only [gsX_X1_passDay_1_L56, if_pos h0]
theorem gsX_X1_passDay_1_q12 {NF : Nat} {v : Nat → Int32} {n56 : Nat} {l3_56 : Int32} {v56 : Nat → Int32} {f56 : Nat → Nat → Int32} {r88 : Int32} {v91 : Nat → Int32} {f92 : Nat → Nat → Int32} {t93 : Int32} (h0 : ¬ ((v 31) ≤ l3_56)) (h1 : r88 = gsX_X1_wears_1 NF l3_56 v56 f56) (h2 : gsX_X1_weather_1 NF r88 1 v56 f56 = (v91, f92)) (h3 : t93 = l3_56 + 1) : gsX_X1_passDay_1_L56 NF v (n56 + 1) l3_56 v56 f56 = gsX_X1_passDay_1_L56 NF v n56 t93 v91 f92 := by
  subst h1 h3
  simp only [gsX_X1_passDay_1_L56, if_neg h0, h2]
theorem gsX_X1_passDay_1_q7 {NF : Nat} {v : Nat → Int32} {n62 : Nat} {l3_62 : Int32} {l4_62 : Int32} {v62 : Nat → Int32} {f62 : Nat → Nat → Int32} (h0 : ((v 31) ≤ l4_62)) : gsX_X1_passDay_1_L62 NF v (n62 + 1) l3_62 l4_62 v62 f62 = (l3_62, v62, f62) := by
  simp only [gsX_X1_passDay_1_L62, if_pos h0]
theorem gsX_X1_passDay_1_q8 {NF : Nat} {v : Nat → Int32} {n62 : Nat} {l3_62 : Int32} {l4_62 : Int32} {v62 : Nat → Int32} {f62 : Nat → Nat → Int32} {r66 : Int32} {t69 : Int32} (h0 : ¬ ((v 31) ≤ l4_62)) (h1 : r66 = gsX_X1_wears_1 NF l4_62 v62 f62) (h2 : (r66 = (-1))) (h3 : t69 = l4_62 + 1) : gsX_X1_passDay_1_L62 NF v (n62 + 1) l3_62 l4_62 v62 f62 = gsX_X1_passDay_1_L62 NF v n62 l3_62 t69 v62 f62 := by
  subst h1 h3
  simp only [gsX_X1_passDay_1_L62, if_neg h0, if_pos h2]
theorem gsX_X1_passDay_1_q9 {NF : Nat} {v : Nat → Int32} {n62 : Nat} {l3_62 : Int32} {l4_62 : Int32} {v62 : Nat → Int32} {f62 : Nat → Nat → Int32} {r66 : Int32} {r71 : Int32} {v75 : Nat → Int32} {f76 : Nat → Nat → Int32} {t78 : Int32} (h0 : ¬ ((v 31) ≤ l4_62)) (h1 : r66 = gsX_X1_wears_1 NF l4_62 v62 f62) (h2 : ¬ (r66 = (-1))) (h3 : r71 = gsX_X1_wears_1 NF l4_62 v62 f62) (h4 : gsX_X1_fits_1 NF l4_62 r71 v62 f62 = (1, v75, f76)) (h6 : t78 = l4_62 + 1) : gsX_X1_passDay_1_L62 NF v (n62 + 1) l3_62 l4_62 v62 f62 = gsX_X1_passDay_1_L62 NF v n62 l3_62 t78 v75 f76 := by
  subst h1 h3 h6
  simp only [gsX_X1_passDay_1_L62, if_neg h0, if_neg h2, h4, ite11, ite01, if_true, if_false]
theorem gsX_X1_passDay_1_q10 {NF : Nat} {v : Nat → Int32} {n62 : Nat} {l3_62 : Int32} {l4_62 : Int32} {v62 : Nat → Int32} {f62 : Nat → Nat → Int32} {r66 : Int32} {r71 : Int32} {v75 : Nat → Int32} {f76 : Nat → Nat → Int32} {v81 : Nat → Int32} {f82 : Nat → Nat → Int32} {t83 : Int32} {t84 : Int32} {t85 : Int32} (h0 : ¬ ((v 31) ≤ l4_62)) (h1 : r66 = gsX_X1_wears_1 NF l4_62 v62 f62) (h2 : ¬ (r66 = (-1))) (h3 : r71 = gsX_X1_wears_1 NF l4_62 v62 f62) (h4 : gsX_X1_fits_1 NF l4_62 r71 v62 f62 = (0, v75, f76)) (h6 : gsX_X1_setWears_1 NF l4_62 (-1) v75 f76 = (v81, f82)) (h7 : t83 = 1 <<< (l4_62 &&& 31)) (h8 : t84 = l3_62 ||| t83) (h9 : t85 = l4_62 + 1) : gsX_X1_passDay_1_L62 NF v (n62 + 1) l3_62 l4_62 v62 f62 = gsX_X1_passDay_1_L62 NF v n62 t84 t85 v81 f82 := by
  subst h1 h3 h7 h8 h9
  simp only [gsX_X1_passDay_1_L62, if_neg h0, if_neg h2, h4, h6, ite11, ite01, if_true, if_false]
def gsX_X5_keepAct_1 (NF : Nat) (v : Nat → Int32) (f : Nat → Nat → Int32) : (Nat → Int32) × (Nat → Nat → Int32) :=
  if 40 ≤ (v 22) then
    let t2 : Int32 := (v 21) + 1
    let t3 : Int32 := t2 - t2 / 41 * 41
    let t4 : Int32 := t3 + (v 22)
    let t5 : Int32 := t4 - t4 / 41 * 41
    match gsX_X1_saveTo_1 NF t5 (upd (upd v 23 0) 21 t3) f with
    | (v7, f8) =>
      (v7, f8)
  else
    let t9 : Int32 := (v 22) + 1
    let t11 : Int32 := (v 21) + t9
    let t12 : Int32 := t11 - t11 / 41 * 41
    match gsX_X1_saveTo_1 NF t12 (upd (upd v 23 0) 22 t9) f with
    | (v14, f15) =>
      (v14, f15)
theorem gsX_X5_keepAct_1_q0 {NF : Nat} {v : Nat → Int32} {f : Nat → Nat → Int32} {t2 : Int32} {t3 : Int32} {t4 : Int32} {t5 : Int32} {v7 : Nat → Int32} {f8 : Nat → Nat → Int32} (h0 : (40 ≤ (v 22))) (h1 : t2 = (v 21) + 1) (h2 : t3 = t2 - t2 / 41 * 41) (h3 : t4 = t3 + (v 22)) (h4 : t5 = t4 - t4 / 41 * 41) (h5 : gsX_X1_saveTo_1 NF t5 (upd (upd v 23 0) 21 t3) f = (v7, f8)) : gsX_X5_keepAct_1 NF v f = (v7, f8) := by
  subst h1 h2 h3 h4
  simp only [gsX_X5_keepAct_1, if_pos h0, h5]
theorem gsX_X5_keepAct_1_q1 {NF : Nat} {v : Nat → Int32} {f : Nat → Nat → Int32} {t9 : Int32} {t11 : Int32} {t12 : Int32} {v14 : Nat → Int32} {f15 : Nat → Nat → Int32} (h0 : ¬ (40 ≤ (v 22))) (h1 : t9 = (v 22) + 1) (h2 : t11 = (v 21) + t9) (h3 : t12 = t11 - t11 / 41 * 41) (h4 : gsX_X1_saveTo_1 NF t12 (upd (upd v 23 0) 22 t9) f = (v14, f15)) : gsX_X5_keepAct_1 NF v f = (v14, f15) := by
  subst h1 h2 h3
  simp only [gsX_X5_keepAct_1, if_neg h0, h4]
def gsX_X10_day_1 (NF : Nat) (v : Nat → Int32) (f : Nat → Nat → Int32) : Int32 × (Nat → Int32) × (Nat → Nat → Int32) :=
  let r1 : Int32 := gsX_X1_today_1 NF v f
  if r1 < 999 then
    match gsX_X1_passDay_1 NF (v 36) v f with
    | (r4, v6, f7) =>
      match gsX_X5_keepAct_1 NF v6 f7 with
      | (v9, f10) =>
        (r4, v9, f10)
  else
    ((-1), v, f)
theorem gsX_X10_day_1_q0 {NF : Nat} {v : Nat → Int32} {f : Nat → Nat → Int32} {r1 : Int32} {r4 : Int32} {v6 : Nat → Int32} {f7 : Nat → Nat → Int32} {v9 : Nat → Int32} {f10 : Nat → Nat → Int32} (h0 : r1 = gsX_X1_today_1 NF v f) (h1 : (r1 < 999)) (h2 : gsX_X1_passDay_1 NF (v 36) v f = (r4, v6, f7)) (h3 : gsX_X5_keepAct_1 NF v6 f7 = (v9, f10)) : gsX_X10_day_1 NF v f = (r4, v9, f10) := by
  subst h0
  simp only [gsX_X10_day_1, if_pos h1, h2, h3]
theorem gsX_X10_day_1_q1 {NF : Nat} {v : Nat → Int32} {f : Nat → Nat → Int32} {r1 : Int32} (h0 : r1 = gsX_X1_today_1 NF v f) (h1 : ¬ (r1 < 999)) : gsX_X10_day_1 NF v f = ((-1), v, f) := by
  subst h0
  simp only [gsX_X10_day_1, if_neg h1]
def gsX_X1_wearer_1_L1 (NF : Nat) (p1 : Int32) (v : Nat → Int32) (f : Nat → Nat → Int32) : Nat → (Int32) → Int32
  | 0, _ => 0
  | n1 + 1, l2_1 =>
    if (v 31) ≤ l2_1 then
      (-1)
    else
      let r7 : Int32 := gsX_X1_wears_1 NF l2_1 v f
      if r7 = p1 then
        l2_1
      else
        let t12 : Int32 := l2_1 + 1
        gsX_X1_wearer_1_L1 NF p1 v f n1 t12
def gsX_X1_wearer_1 (NF : Nat) (p1 : Int32) (v : Nat → Int32) (f : Nat → Nat → Int32) : Int32 :=
  gsX_X1_wearer_1_L1 NF p1 v f (4294967296 + NF) 0
theorem gsX_X1_wearer_1_q3 {NF : Nat} {p1 : Int32} {v : Nat → Int32} {f : Nat → Nat → Int32}  : gsX_X1_wearer_1 NF p1 v f = gsX_X1_wearer_1_L1 NF p1 v f (4294967296 + NF) 0 := by
  simp only [gsX_X1_wearer_1]
theorem gsX_X1_wearer_1_q0 {NF : Nat} {p1 : Int32} {v : Nat → Int32} {f : Nat → Nat → Int32} {n1 : Nat} {l2_1 : Int32} (h0 : ((v 31) ≤ l2_1)) : gsX_X1_wearer_1_L1 NF p1 v f (n1 + 1) l2_1 = (-1) := by
  simp only [gsX_X1_wearer_1_L1, if_pos h0]
theorem gsX_X1_wearer_1_q1 {NF : Nat} {p1 : Int32} {v : Nat → Int32} {f : Nat → Nat → Int32} {n1 : Nat} {l2_1 : Int32} {r7 : Int32} {t12 : Int32} (h0 : ¬ ((v 31) ≤ l2_1)) (h1 : r7 = gsX_X1_wears_1 NF l2_1 v f) (h2 : ¬ (r7 = p1)) (h3 : t12 = l2_1 + 1) : gsX_X1_wearer_1_L1 NF p1 v f (n1 + 1) l2_1 = gsX_X1_wearer_1_L1 NF p1 v f n1 t12 := by
  subst h1 h3
  simp only [gsX_X1_wearer_1_L1, if_neg h0, if_neg h2]
theorem gsX_X1_wearer_1_q2 {NF : Nat} {p1 : Int32} {v : Nat → Int32} {f : Nat → Nat → Int32} {n1 : Nat} {l2_1 : Int32} {r7 : Int32} (h0 : ¬ ((v 31) ≤ l2_1)) (h1 : r7 = gsX_X1_wears_1 NF l2_1 v f) (h2 : (r7 = p1)) : gsX_X1_wearer_1_L1 NF p1 v f (n1 + 1) l2_1 = l2_1 := by
  subst h1
  simp only [gsX_X1_wearer_1_L1, if_neg h0, if_pos h2]
def gsX_X10_don_1 (NF : Nat) (p1 : Int32) (p2 : Int32) (v : Nat → Int32) (f : Nat → Nat → Int32) : Int32 × (Nat → Int32) × (Nat → Nat → Int32) :=
  if gsX_X7_hasMan_1 NF p1 v f = 1 then
    if gsX_X7_hasCoat_1 NF p2 v f = 1 then
      let r7 : Int32 := gsX_X1_wearer_1 NF p2 v f
      if r7 = (-1) then
        let r10 : Int32 := gsX_X1_wears_1 NF p1 v f
        match gsX_X1_setWears_1 NF p1 p2 v f with
        | (v13, f14) =>
          match gsX_X5_keepAct_1 NF v13 f14 with
          | (v16, f17) =>
            (r10, v16, f17)
      else
        ((-2), v, f)
    else
      ((-2), v, f)
  else
    ((-2), v, f)
theorem gsX_X10_don_1_q0 {NF : Nat} {p1 : Int32} {p2 : Int32} {v : Nat → Int32} {f : Nat → Nat → Int32} {r7 : Int32} {r10 : Int32} {v13 : Nat → Int32} {f14 : Nat → Nat → Int32} {v16 : Nat → Int32} {f17 : Nat → Nat → Int32} (h0 : gsX_X7_hasMan_1 NF p1 v f = 1) (h1 : gsX_X7_hasCoat_1 NF p2 v f = 1) (h2 : r7 = gsX_X1_wearer_1 NF p2 v f) (h3 : (r7 = (-1))) (h4 : r10 = gsX_X1_wears_1 NF p1 v f) (h5 : gsX_X1_setWears_1 NF p1 p2 v f = (v13, f14)) (h6 : gsX_X5_keepAct_1 NF v13 f14 = (v16, f17)) : gsX_X10_don_1 NF p1 p2 v f = (r10, v16, f17) := by
  subst h2 h4
  simp only [gsX_X10_don_1, h0, h1, if_pos h3, h5, h6, ite11, ite01, if_true, if_false]
theorem gsX_X10_don_1_q1 {NF : Nat} {p1 : Int32} {p2 : Int32} {v : Nat → Int32} {f : Nat → Nat → Int32} {r7 : Int32} (h0 : gsX_X7_hasMan_1 NF p1 v f = 1) (h1 : gsX_X7_hasCoat_1 NF p2 v f = 1) (h2 : r7 = gsX_X1_wearer_1 NF p2 v f) (h3 : ¬ (r7 = (-1))) : gsX_X10_don_1 NF p1 p2 v f = ((-2), v, f) := by
  subst h2
  simp only [gsX_X10_don_1, h0, h1, if_neg h3, ite11, ite01, if_true, if_false]
theorem gsX_X10_don_1_q2 {NF : Nat} {p1 : Int32} {p2 : Int32} {v : Nat → Int32} {f : Nat → Nat → Int32} (h0 : gsX_X7_hasMan_1 NF p1 v f = 1) (h1 : gsX_X7_hasCoat_1 NF p2 v f = 0) : gsX_X10_don_1 NF p1 p2 v f = ((-2), v, f) := by
  simp only [gsX_X10_don_1, h0, h1, ite11, ite01, if_true, if_false]
theorem gsX_X10_don_1_q3 {NF : Nat} {p1 : Int32} {p2 : Int32} {v : Nat → Int32} {f : Nat → Nat → Int32} (h0 : gsX_X7_hasMan_1 NF p1 v f = 0) : gsX_X10_don_1 NF p1 p2 v f = ((-2), v, f) := by
  simp only [gsX_X10_don_1, h0, ite11, ite01, if_true, if_false]
def gsX_X10_doff_1 (NF : Nat) (p1 : Int32) (v : Nat → Int32) (f : Nat → Nat → Int32) : Int32 × (Nat → Int32) × (Nat → Nat → Int32) :=
  let r1 : Int32 := gsX_X1_wears_1 NF p1 v f
  if r1 = (-1) then
    ((-1), v, f)
  else
    match gsX_X1_setWears_1 NF p1 (-1) v f with
    | (v5, f6) =>
      match gsX_X5_keepAct_1 NF v5 f6 with
      | (v8, f9) =>
        (r1, v8, f9)
theorem gsX_X10_doff_1_q0 {NF : Nat} {p1 : Int32} {v : Nat → Int32} {f : Nat → Nat → Int32} {r1 : Int32} {v5 : Nat → Int32} {f6 : Nat → Nat → Int32} {v8 : Nat → Int32} {f9 : Nat → Nat → Int32} (h0 : r1 = gsX_X1_wears_1 NF p1 v f) (h1 : ¬ (r1 = (-1))) (h2 : gsX_X1_setWears_1 NF p1 (-1) v f = (v5, f6)) (h3 : gsX_X5_keepAct_1 NF v5 f6 = (v8, f9)) : gsX_X10_doff_1 NF p1 v f = (r1, v8, f9) := by
  subst h0
  simp only [gsX_X10_doff_1, if_neg h1, h2, h3]
theorem gsX_X10_doff_1_q1 {NF : Nat} {p1 : Int32} {v : Nat → Int32} {f : Nat → Nat → Int32} {r1 : Int32} (h0 : r1 = gsX_X1_wears_1 NF p1 v f) (h1 : (r1 = (-1))) : gsX_X10_doff_1 NF p1 v f = ((-1), v, f) := by
  subst h0
  simp only [gsX_X10_doff_1, if_pos h1]
def gsX_X10_widen_1 (NF : Nat) (p1 : Int32) (p2 : Int32) (v : Nat → Int32) (f : Nat → Nat → Int32) : Int32 × (Nat → Int32) × (Nat → Nat → Int32) :=
  let r1 : Int32 := gsX_X1_part_1 NF 1 p1 v f
  let t3 : Int32 := r1 + p2
  let r4 : Int32 := gsX_X1_part_1 NF 2 p1 v f
  let t6 : Int32 := r4 - p2
  if 99 < t3 then
    ((-1), v, f)
  else
    if t6 ≤ 99 then
      match gsX_X1_setPart_1 NF 1 p1 t3 v f with
      | (v10, f11) =>
        match gsX_X1_setPart_1 NF 2 p1 t6 v10 f11 with
        | (v13, f14) =>
          match gsX_X5_keepAct_1 NF v13 f14 with
          | (v16, f17) =>
            (t3, v16, f17)
    else
      ((-1), v, f)
theorem gsX_X10_widen_1_q0 {NF : Nat} {p1 : Int32} {p2 : Int32} {v : Nat → Int32} {f : Nat → Nat → Int32} {r1 : Int32} {t3 : Int32} {r4 : Int32} {t6 : Int32} (h0 : r1 = gsX_X1_part_1 NF 1 p1 v f) (h1 : t3 = r1 + p2) (h2 : r4 = gsX_X1_part_1 NF 2 p1 v f) (h3 : t6 = r4 - p2) (h4 : (99 < t3)) : gsX_X10_widen_1 NF p1 p2 v f = ((-1), v, f) := by
  subst h0 h1 h2 h3
  simp only [gsX_X10_widen_1, if_pos h4]
theorem gsX_X10_widen_1_q1 {NF : Nat} {p1 : Int32} {p2 : Int32} {v : Nat → Int32} {f : Nat → Nat → Int32} {r1 : Int32} {t3 : Int32} {r4 : Int32} {t6 : Int32} {v10 : Nat → Int32} {f11 : Nat → Nat → Int32} {v13 : Nat → Int32} {f14 : Nat → Nat → Int32} {v16 : Nat → Int32} {f17 : Nat → Nat → Int32} (h0 : r1 = gsX_X1_part_1 NF 1 p1 v f) (h1 : t3 = r1 + p2) (h2 : r4 = gsX_X1_part_1 NF 2 p1 v f) (h3 : t6 = r4 - p2) (h4 : ¬ (99 < t3)) (h5 : (t6 ≤ 99)) (h6 : gsX_X1_setPart_1 NF 1 p1 t3 v f = (v10, f11)) (h7 : gsX_X1_setPart_1 NF 2 p1 t6 v10 f11 = (v13, f14)) (h8 : gsX_X5_keepAct_1 NF v13 f14 = (v16, f17)) : gsX_X10_widen_1 NF p1 p2 v f = (t3, v16, f17) := by
  subst h0 h1 h2 h3
  simp only [gsX_X10_widen_1, if_neg h4, if_pos h5, h6, h7, h8]
theorem gsX_X10_widen_1_q2 {NF : Nat} {p1 : Int32} {p2 : Int32} {v : Nat → Int32} {f : Nat → Nat → Int32} {r1 : Int32} {t3 : Int32} {r4 : Int32} {t6 : Int32} (h0 : r1 = gsX_X1_part_1 NF 1 p1 v f) (h1 : t3 = r1 + p2) (h2 : r4 = gsX_X1_part_1 NF 2 p1 v f) (h3 : t6 = r4 - p2) (h4 : ¬ (99 < t3)) (h5 : ¬ (t6 ≤ 99)) : gsX_X10_widen_1 NF p1 p2 v f = ((-1), v, f) := by
  subst h0 h1 h2 h3
  simp only [gsX_X10_widen_1, if_neg h4, if_neg h5]
def gsX_X10_letout_1 (NF : Nat) (p1 : Int32) (p2 : Int32) (v : Nat → Int32) (f : Nat → Nat → Int32) : Int32 × (Nat → Int32) × (Nat → Nat → Int32) :=
  if p2 < 1 then
    ((-1), v, f)
  else
    let r2 : Int32 := gsX_X1_part_1 NF 2 p1 v f
    if p2 ≤ r2 then
      match gsX_X10_widen_1 NF p1 p2 v f with
      | (r7, v9, f10) =>
        (r7, v9, f10)
    else
      ((-1), v, f)
theorem gsX_X10_letout_1_q0 {NF : Nat} {p1 : Int32} {p2 : Int32} {v : Nat → Int32} {f : Nat → Nat → Int32} (h0 : (p2 < 1)) : gsX_X10_letout_1 NF p1 p2 v f = ((-1), v, f) := by
  simp only [gsX_X10_letout_1, if_pos h0]
theorem gsX_X10_letout_1_q1 {NF : Nat} {p1 : Int32} {p2 : Int32} {v : Nat → Int32} {f : Nat → Nat → Int32} {r2 : Int32} {r7 : Int32} {v9 : Nat → Int32} {f10 : Nat → Nat → Int32} (h0 : ¬ (p2 < 1)) (h1 : r2 = gsX_X1_part_1 NF 2 p1 v f) (h2 : (p2 ≤ r2)) (h3 : gsX_X10_widen_1 NF p1 p2 v f = (r7, v9, f10)) : gsX_X10_letout_1 NF p1 p2 v f = (r7, v9, f10) := by
  subst h1
  simp only [gsX_X10_letout_1, if_neg h0, if_pos h2, h3]
theorem gsX_X10_letout_1_q2 {NF : Nat} {p1 : Int32} {p2 : Int32} {v : Nat → Int32} {f : Nat → Nat → Int32} {r2 : Int32} (h0 : ¬ (p2 < 1)) (h1 : r2 = gsX_X1_part_1 NF 2 p1 v f) (h2 : ¬ (p2 ≤ r2)) : gsX_X10_letout_1 NF p1 p2 v f = ((-1), v, f) := by
  subst h1
  simp only [gsX_X10_letout_1, if_neg h0, if_neg h2]
def gsX_X10_takein_1 (NF : Nat) (p1 : Int32) (p2 : Int32) (v : Nat → Int32) (f : Nat → Nat → Int32) : Int32 × (Nat → Int32) × (Nat → Nat → Int32) :=
  if p2 < 1 then
    ((-1), v, f)
  else
    let r2 : Int32 := gsX_X1_part_1 NF 1 p1 v f
    if p2 ≤ r2 then
      let t7 : Int32 := -p2
      match gsX_X10_widen_1 NF p1 t7 v f with
      | (r8, v10, f11) =>
        (r8, v10, f11)
    else
      ((-1), v, f)
theorem gsX_X10_takein_1_q0 {NF : Nat} {p1 : Int32} {p2 : Int32} {v : Nat → Int32} {f : Nat → Nat → Int32} (h0 : (p2 < 1)) : gsX_X10_takein_1 NF p1 p2 v f = ((-1), v, f) := by
  simp only [gsX_X10_takein_1, if_pos h0]
theorem gsX_X10_takein_1_q1 {NF : Nat} {p1 : Int32} {p2 : Int32} {v : Nat → Int32} {f : Nat → Nat → Int32} {r2 : Int32} {t7 : Int32} {r8 : Int32} {v10 : Nat → Int32} {f11 : Nat → Nat → Int32} (h0 : ¬ (p2 < 1)) (h1 : r2 = gsX_X1_part_1 NF 1 p1 v f) (h2 : (p2 ≤ r2)) (h3 : t7 = -p2) (h4 : gsX_X10_widen_1 NF p1 t7 v f = (r8, v10, f11)) : gsX_X10_takein_1 NF p1 p2 v f = (r8, v10, f11) := by
  subst h1 h3
  simp only [gsX_X10_takein_1, if_neg h0, if_pos h2, h4]
theorem gsX_X10_takein_1_q2 {NF : Nat} {p1 : Int32} {p2 : Int32} {v : Nat → Int32} {f : Nat → Nat → Int32} {r2 : Int32} (h0 : ¬ (p2 < 1)) (h1 : r2 = gsX_X1_part_1 NF 1 p1 v f) (h2 : ¬ (p2 ≤ r2)) : gsX_X10_takein_1 NF p1 p2 v f = ((-1), v, f) := by
  subst h1
  simp only [gsX_X10_takein_1, if_neg h0, if_neg h2]
def gsX_X10_hem_1 (NF : Nat) (p1 : Int32) (p2 : Int32) (v : Nat → Int32) (f : Nat → Nat → Int32) : Int32 × (Nat → Int32) × (Nat → Nat → Int32) :=
  let r1 : Int32 := gsX_X1_part_1 NF 0 p1 v f
  if p2 < 1 then
    ((-1), v, f)
  else
    if p2 ≤ r1 then
      let t7 : Int32 := r1 - p2
      match gsX_X1_setPart_1 NF 0 p1 t7 v f with
      | (v9, f10) =>
        match gsX_X5_keepAct_1 NF v9 f10 with
        | (v12, f13) =>
          (t7, v12, f13)
    else
      ((-1), v, f)
theorem gsX_X10_hem_1_q0 {NF : Nat} {p1 : Int32} {p2 : Int32} {v : Nat → Int32} {f : Nat → Nat → Int32} {r1 : Int32} (h0 : r1 = gsX_X1_part_1 NF 0 p1 v f) (h1 : (p2 < 1)) : gsX_X10_hem_1 NF p1 p2 v f = ((-1), v, f) := by
  subst h0
  simp only [gsX_X10_hem_1, if_pos h1]
theorem gsX_X10_hem_1_q1 {NF : Nat} {p1 : Int32} {p2 : Int32} {v : Nat → Int32} {f : Nat → Nat → Int32} {r1 : Int32} {t7 : Int32} {v9 : Nat → Int32} {f10 : Nat → Nat → Int32} {v12 : Nat → Int32} {f13 : Nat → Nat → Int32} (h0 : r1 = gsX_X1_part_1 NF 0 p1 v f) (h1 : ¬ (p2 < 1)) (h2 : (p2 ≤ r1)) (h3 : t7 = r1 - p2) (h4 : gsX_X1_setPart_1 NF 0 p1 t7 v f = (v9, f10)) (h5 : gsX_X5_keepAct_1 NF v9 f10 = (v12, f13)) : gsX_X10_hem_1 NF p1 p2 v f = (t7, v12, f13) := by
  subst h0 h3
  simp only [gsX_X10_hem_1, if_neg h1, if_pos h2, h4, h5]
theorem gsX_X10_hem_1_q2 {NF : Nat} {p1 : Int32} {p2 : Int32} {v : Nat → Int32} {f : Nat → Nat → Int32} {r1 : Int32} (h0 : r1 = gsX_X1_part_1 NF 0 p1 v f) (h1 : ¬ (p2 < 1)) (h2 : ¬ (p2 ≤ r1)) : gsX_X10_hem_1 NF p1 p2 v f = ((-1), v, f) := by
  subst h0
  simp only [gsX_X10_hem_1, if_neg h1, if_neg h2]
def gsX_X10_turn_1 (NF : Nat) (p1 : Int32) (v : Nat → Int32) (f : Nat → Nat → Int32) : Int32 × (Nat → Int32) × (Nat → Nat → Int32) :=
  if gsX_X7_hasCoat_1 NF p1 v f = 1 then
    let r4 : Int32 := gsX_X1_part_1 NF 4 p1 v f
    if r4 = 0 then
      let r7 : Int32 := gsX_X1_part_1 NF 3 p1 v f
      match gsX_X1_setPart_1 NF 3 p1 0 v f with
      | (v10, f11) =>
        match gsX_X1_setPart_1 NF 4 p1 1 v10 f11 with
        | (v13, f14) =>
          match gsX_X5_keepAct_1 NF v13 f14 with
          | (v16, f17) =>
            (r7, v16, f17)
    else
      ((-1), v, f)
  else
    ((-1), v, f)
theorem gsX_X10_turn_1_q0 {NF : Nat} {p1 : Int32} {v : Nat → Int32} {f : Nat → Nat → Int32} {r4 : Int32} {r7 : Int32} {v10 : Nat → Int32} {f11 : Nat → Nat → Int32} {v13 : Nat → Int32} {f14 : Nat → Nat → Int32} {v16 : Nat → Int32} {f17 : Nat → Nat → Int32} (h0 : gsX_X7_hasCoat_1 NF p1 v f = 1) (h1 : r4 = gsX_X1_part_1 NF 4 p1 v f) (h2 : (r4 = 0)) (h3 : r7 = gsX_X1_part_1 NF 3 p1 v f) (h4 : gsX_X1_setPart_1 NF 3 p1 0 v f = (v10, f11)) (h5 : gsX_X1_setPart_1 NF 4 p1 1 v10 f11 = (v13, f14)) (h6 : gsX_X5_keepAct_1 NF v13 f14 = (v16, f17)) : gsX_X10_turn_1 NF p1 v f = (r7, v16, f17) := by
  subst h1 h3
  simp only [gsX_X10_turn_1, h0, if_pos h2, h4, h5, h6, ite11, ite01, if_true, if_false]
theorem gsX_X10_turn_1_q1 {NF : Nat} {p1 : Int32} {v : Nat → Int32} {f : Nat → Nat → Int32} {r4 : Int32} (h0 : gsX_X7_hasCoat_1 NF p1 v f = 1) (h1 : r4 = gsX_X1_part_1 NF 4 p1 v f) (h2 : ¬ (r4 = 0)) : gsX_X10_turn_1 NF p1 v f = ((-1), v, f) := by
  subst h1
  simp only [gsX_X10_turn_1, h0, if_neg h2, ite11, ite01, if_true, if_false]
theorem gsX_X10_turn_1_q2 {NF : Nat} {p1 : Int32} {v : Nat → Int32} {f : Nat → Nat → Int32} (h0 : gsX_X7_hasCoat_1 NF p1 v f = 0) : gsX_X10_turn_1 NF p1 v f = ((-1), v, f) := by
  simp only [gsX_X10_turn_1, h0, ite11, ite01, if_true, if_false]
def gsX_X1_loadFrom_1 (NF : Nat) (p2 : Int32) (v : Nat → Int32) (f : Nat → Nat → Int32) : (Nat → Int32) × (Nat → Nat → Int32) :=
  if p2 < 0 then
    (v, f)
  else
    if 41 ≤ p2 then
      (v, f)
    else
      let t3 : Int32 := p2 * 44
      let f5 : Nat → Nat → Int32 := upd2 f 15 (va_cpy (f 17) (f 15) (t3).toNatClampNeg (0 : Int32).toNatClampNeg (44 : Int32).toNatClampNeg)
      (v, f5)
theorem gsX_X1_loadFrom_1_q0 {NF : Nat} {p2 : Int32} {v : Nat → Int32} {f : Nat → Nat → Int32} (h0 : (p2 < 0)) : gsX_X1_loadFrom_1 NF p2 v f = (v, f) := by
  simp only [gsX_X1_loadFrom_1, if_pos h0]
theorem gsX_X1_loadFrom_1_q1 {NF : Nat} {p2 : Int32} {v : Nat → Int32} {f : Nat → Nat → Int32} (h0 : ¬ (p2 < 0)) (h1 : (41 ≤ p2)) : gsX_X1_loadFrom_1 NF p2 v f = (v, f) := by
  simp only [gsX_X1_loadFrom_1, if_neg h0, if_pos h1]
theorem gsX_X1_loadFrom_1_q2 {NF : Nat} {p2 : Int32} {v : Nat → Int32} {f : Nat → Nat → Int32} {t3 : Int32} {f5 : Nat → Nat → Int32} (h0 : ¬ (p2 < 0)) (h1 : ¬ (41 ≤ p2)) (h2 : t3 = p2 * 44) (h3 : f5 = upd2 f 15 (va_cpy (f 17) (f 15) (t3).toNatClampNeg (0 : Int32).toNatClampNeg (44 : Int32).toNatClampNeg)) : gsX_X1_loadFrom_1 NF p2 v f = (v, f5) := by
  subst h2 h3
  simp only [gsX_X1_loadFrom_1, if_neg h0, if_neg h1]
def gsX_X5_stepBack_1 (NF : Nat) (v : Nat → Int32) (f : Nat → Nat → Int32) : Int32 × (Nat → Int32) × (Nat → Nat → Int32) :=
  if (v 22) = 0 then
    (0, v, f)
  else
    let t2 : Int32 := (v 22) - 1
    let t3 : Int32 := (v 23) + 1
    let t4 : Int32 := (v 21) + t2
    let t5 : Int32 := t4 - t4 / 41 * 41
    match gsX_X1_loadFrom_1 NF t5 (upd (upd v 22 t2) 23 t3) f with
    | (v7, f8) =>
      (1, v7, f8)
theorem gsX_X5_stepBack_1_q0 {NF : Nat} {v : Nat → Int32} {f : Nat → Nat → Int32} {t2 : Int32} {t3 : Int32} {t4 : Int32} {t5 : Int32} {v7 : Nat → Int32} {f8 : Nat → Nat → Int32} (h0 : ¬ ((v 22) = 0)) (h1 : t2 = (v 22) - 1) (h2 : t3 = (v 23) + 1) (h3 : t4 = (v 21) + t2) (h4 : t5 = t4 - t4 / 41 * 41) (h5 : gsX_X1_loadFrom_1 NF t5 (upd (upd v 22 t2) 23 t3) f = (v7, f8)) : gsX_X5_stepBack_1 NF v f = (1, v7, f8) := by
  subst h1 h2 h3 h4
  simp only [gsX_X5_stepBack_1, if_neg h0, h5]
theorem gsX_X5_stepBack_1_q1 {NF : Nat} {v : Nat → Int32} {f : Nat → Nat → Int32} (h0 : ((v 22) = 0)) : gsX_X5_stepBack_1 NF v f = (0, v, f) := by
  simp only [gsX_X5_stepBack_1, if_pos h0]
def gsX_X10_undo_1 (NF : Nat) (v : Nat → Int32) (f : Nat → Nat → Int32) : Int32 × (Nat → Int32) × (Nat → Nat → Int32) :=
  match gsX_X5_stepBack_1 NF v f with
  | (r1, v3, f4) =>
    if r1 = 1 then
      (1, v3, f4)
    else
      (0, v3, f4)
theorem gsX_X10_undo_1_q0 {NF : Nat} {v : Nat → Int32} {f : Nat → Nat → Int32} {v3 : Nat → Int32} {f4 : Nat → Nat → Int32} (h0 : gsX_X5_stepBack_1 NF v f = (1, v3, f4)) : gsX_X10_undo_1 NF v f = (1, v3, f4) := by
  simp only [gsX_X10_undo_1, h0, ite11, ite01, if_true, if_false]
theorem gsX_X10_undo_1_q1 {NF : Nat} {v : Nat → Int32} {f : Nat → Nat → Int32} {v3 : Nat → Int32} {f4 : Nat → Nat → Int32} (h0 : gsX_X5_stepBack_1 NF v f = (0, v3, f4)) : gsX_X10_undo_1 NF v f = (0, v3, f4) := by
  simp only [gsX_X10_undo_1, h0, ite11, ite01, if_true, if_false]
def gsX_X5_stepOn_1 (NF : Nat) (v : Nat → Int32) (f : Nat → Nat → Int32) : Int32 × (Nat → Int32) × (Nat → Nat → Int32) :=
  if (v 23) = 0 then
    (0, v, f)
  else
    let t2 : Int32 := (v 22) + 1
    let t3 : Int32 := (v 23) - 1
    let t4 : Int32 := (v 21) + t2
    let t5 : Int32 := t4 - t4 / 41 * 41
    match gsX_X1_loadFrom_1 NF t5 (upd (upd v 22 t2) 23 t3) f with
    | (v7, f8) =>
      (1, v7, f8)
theorem gsX_X5_stepOn_1_q0 {NF : Nat} {v : Nat → Int32} {f : Nat → Nat → Int32} {t2 : Int32} {t3 : Int32} {t4 : Int32} {t5 : Int32} {v7 : Nat → Int32} {f8 : Nat → Nat → Int32} (h0 : ¬ ((v 23) = 0)) (h1 : t2 = (v 22) + 1) (h2 : t3 = (v 23) - 1) (h3 : t4 = (v 21) + t2) (h4 : t5 = t4 - t4 / 41 * 41) (h5 : gsX_X1_loadFrom_1 NF t5 (upd (upd v 22 t2) 23 t3) f = (v7, f8)) : gsX_X5_stepOn_1 NF v f = (1, v7, f8) := by
  subst h1 h2 h3 h4
  simp only [gsX_X5_stepOn_1, if_neg h0, h5]
theorem gsX_X5_stepOn_1_q1 {NF : Nat} {v : Nat → Int32} {f : Nat → Nat → Int32} (h0 : ((v 23) = 0)) : gsX_X5_stepOn_1 NF v f = (0, v, f) := by
  simp only [gsX_X5_stepOn_1, if_pos h0]
def gsX_X10_redo_1 (NF : Nat) (v : Nat → Int32) (f : Nat → Nat → Int32) : Int32 × (Nat → Int32) × (Nat → Nat → Int32) :=
  match gsX_X5_stepOn_1 NF v f with
  | (r1, v3, f4) =>
    if r1 = 1 then
      (1, v3, f4)
    else
      (0, v3, f4)
theorem gsX_X10_redo_1_q0 {NF : Nat} {v : Nat → Int32} {f : Nat → Nat → Int32} {v3 : Nat → Int32} {f4 : Nat → Nat → Int32} (h0 : gsX_X5_stepOn_1 NF v f = (1, v3, f4)) : gsX_X10_redo_1 NF v f = (1, v3, f4) := by
  simp only [gsX_X10_redo_1, h0, ite11, ite01, if_true, if_false]
theorem gsX_X10_redo_1_q1 {NF : Nat} {v : Nat → Int32} {f : Nat → Nat → Int32} {v3 : Nat → Int32} {f4 : Nat → Nat → Int32} (h0 : gsX_X5_stepOn_1 NF v f = (0, v3, f4)) : gsX_X10_redo_1 NF v f = (0, v3, f4) := by
  simp only [gsX_X10_redo_1, h0, ite11, ite01, if_true, if_false]
def gsX_X1_saveTo_2 (NF : Nat) (p2 : Int32) (v : Nat → Int32) (f : Nat → Nat → Int32) : (Nat → Int32) × (Nat → Nat → Int32) :=
  if p2 < 0 then
    (v, f)
  else
    if 3 ≤ p2 then
      (v, f)
    else
      let t3 : Int32 := p2 * 44
      let f5 : Nat → Nat → Int32 := upd2 f 16 (va_cpy (f 15) (f 16) (0 : Int32).toNatClampNeg (t3).toNatClampNeg (44 : Int32).toNatClampNeg)
      (v, f5)
theorem gsX_X1_saveTo_2_q0 {NF : Nat} {p2 : Int32} {v : Nat → Int32} {f : Nat → Nat → Int32} (h0 : (p2 < 0)) : gsX_X1_saveTo_2 NF p2 v f = (v, f) := by
  simp only [gsX_X1_saveTo_2, if_pos h0]
theorem gsX_X1_saveTo_2_q1 {NF : Nat} {p2 : Int32} {v : Nat → Int32} {f : Nat → Nat → Int32} (h0 : ¬ (p2 < 0)) (h1 : (3 ≤ p2)) : gsX_X1_saveTo_2 NF p2 v f = (v, f) := by
  simp only [gsX_X1_saveTo_2, if_neg h0, if_pos h1]
theorem gsX_X1_saveTo_2_q2 {NF : Nat} {p2 : Int32} {v : Nat → Int32} {f : Nat → Nat → Int32} {t3 : Int32} {f5 : Nat → Nat → Int32} (h0 : ¬ (p2 < 0)) (h1 : ¬ (3 ≤ p2)) (h2 : t3 = p2 * 44) (h3 : f5 = upd2 f 16 (va_cpy (f 15) (f 16) (0 : Int32).toNatClampNeg (t3).toNatClampNeg (44 : Int32).toNatClampNeg)) : gsX_X1_saveTo_2 NF p2 v f = (v, f5) := by
  subst h2 h3
  simp only [gsX_X1_saveTo_2, if_neg h0, if_neg h1]
def gsX_X5_fillBox_1 (NF : Nat) (p1 : Int32) (v : Nat → Int32) (f : Nat → Nat → Int32) : Int32 × (Nat → Int32) × (Nat → Nat → Int32) :=
  if p1 < 0 then
    (0, v, f)
  else
    if p1 < 3 then
      match gsX_X1_saveTo_2 NF p1 v f with
      | (v4, f5) =>
        let t6 : Int32 := 1 <<< (p1 &&& 31)
        let t7 : Int32 := (v4 20) ||| t6
        (1, (upd v4 20 t7), f5)
    else
      (0, v, f)
theorem gsX_X5_fillBox_1_q0 {NF : Nat} {p1 : Int32} {v : Nat → Int32} {f : Nat → Nat → Int32} (h0 : (p1 < 0)) : gsX_X5_fillBox_1 NF p1 v f = (0, v, f) := by
  simp only [gsX_X5_fillBox_1, if_pos h0]
theorem gsX_X5_fillBox_1_q1 {NF : Nat} {p1 : Int32} {v : Nat → Int32} {f : Nat → Nat → Int32} {v4 : Nat → Int32} {f5 : Nat → Nat → Int32} {t6 : Int32} {t7 : Int32} (h0 : ¬ (p1 < 0)) (h1 : (p1 < 3)) (h2 : gsX_X1_saveTo_2 NF p1 v f = (v4, f5)) (h3 : t6 = 1 <<< (p1 &&& 31)) (h4 : t7 = (v4 20) ||| t6) : gsX_X5_fillBox_1 NF p1 v f = (1, (upd v4 20 t7), f5) := by
  subst h3 h4
  simp only [gsX_X5_fillBox_1, if_neg h0, if_pos h1, h2]
theorem gsX_X5_fillBox_1_q2 {NF : Nat} {p1 : Int32} {v : Nat → Int32} {f : Nat → Nat → Int32} (h0 : ¬ (p1 < 0)) (h1 : ¬ (p1 < 3)) : gsX_X5_fillBox_1 NF p1 v f = (0, v, f) := by
  simp only [gsX_X5_fillBox_1, if_neg h0, if_neg h1]
def gsX_X10_image_1 (NF : Nat) (p1 : Int32) (v : Nat → Int32) (f : Nat → Nat → Int32) : Int32 × (Nat → Int32) × (Nat → Nat → Int32) :=
  match gsX_X5_fillBox_1 NF p1 v f with
  | (r1, v3, f4) =>
    if r1 = 1 then
      let r6 : Int32 := gsX_X1_today_1 NF v3 f4
      (r6, v3, f4)
    else
      ((-1), v3, f4)
theorem gsX_X10_image_1_q0 {NF : Nat} {p1 : Int32} {v : Nat → Int32} {f : Nat → Nat → Int32} {v3 : Nat → Int32} {f4 : Nat → Nat → Int32} {r6 : Int32} (h0 : gsX_X5_fillBox_1 NF p1 v f = (1, v3, f4)) (h2 : r6 = gsX_X1_today_1 NF v3 f4) : gsX_X10_image_1 NF p1 v f = (r6, v3, f4) := by
  subst h2
  simp only [gsX_X10_image_1, h0, ite11, ite01, if_true, if_false]
theorem gsX_X10_image_1_q1 {NF : Nat} {p1 : Int32} {v : Nat → Int32} {f : Nat → Nat → Int32} {v3 : Nat → Int32} {f4 : Nat → Nat → Int32} (h0 : gsX_X5_fillBox_1 NF p1 v f = (0, v3, f4)) : gsX_X10_image_1 NF p1 v f = ((-1), v3, f4) := by
  simp only [gsX_X10_image_1, h0, ite11, ite01, if_true, if_false]
def gsX_X1_loadFrom_2 (NF : Nat) (p2 : Int32) (v : Nat → Int32) (f : Nat → Nat → Int32) : (Nat → Int32) × (Nat → Nat → Int32) :=
  if p2 < 0 then
    (v, f)
  else
    if 3 ≤ p2 then
      (v, f)
    else
      let t3 : Int32 := p2 * 44
      let f5 : Nat → Nat → Int32 := upd2 f 15 (va_cpy (f 16) (f 15) (t3).toNatClampNeg (0 : Int32).toNatClampNeg (44 : Int32).toNatClampNeg)
      (v, f5)
theorem gsX_X1_loadFrom_2_q0 {NF : Nat} {p2 : Int32} {v : Nat → Int32} {f : Nat → Nat → Int32} (h0 : (p2 < 0)) : gsX_X1_loadFrom_2 NF p2 v f = (v, f) := by
  simp only [gsX_X1_loadFrom_2, if_pos h0]
theorem gsX_X1_loadFrom_2_q1 {NF : Nat} {p2 : Int32} {v : Nat → Int32} {f : Nat → Nat → Int32} (h0 : ¬ (p2 < 0)) (h1 : (3 ≤ p2)) : gsX_X1_loadFrom_2 NF p2 v f = (v, f) := by
  simp only [gsX_X1_loadFrom_2, if_neg h0, if_pos h1]
theorem gsX_X1_loadFrom_2_q2 {NF : Nat} {p2 : Int32} {v : Nat → Int32} {f : Nat → Nat → Int32} {t3 : Int32} {f5 : Nat → Nat → Int32} (h0 : ¬ (p2 < 0)) (h1 : ¬ (3 ≤ p2)) (h2 : t3 = p2 * 44) (h3 : f5 = upd2 f 15 (va_cpy (f 16) (f 15) (t3).toNatClampNeg (0 : Int32).toNatClampNeg (44 : Int32).toNatClampNeg)) : gsX_X1_loadFrom_2 NF p2 v f = (v, f5) := by
  subst h2 h3
  simp only [gsX_X1_loadFrom_2, if_neg h0, if_neg h1]
def gsX_X5_takeBox_1 (NF : Nat) (p1 : Int32) (v : Nat → Int32) (f : Nat → Nat → Int32) : Int32 × (Nat → Int32) × (Nat → Nat → Int32) :=
  if p1 < 0 then
    (0, v, f)
  else
    if 3 ≤ p1 then
      (0, v, f)
    else
      let t3 : Int32 := (v 20) >>> (p1 &&& 31)
      let t4 : Int32 := t3 &&& 1
      if t4 = 0 then
        (0, v, f)
      else
        match gsX_X1_loadFrom_2 NF p1 v f with
        | (v7, f8) =>
          match gsX_X5_forgetActs_1 NF v7 f8 with
          | (v10, f11) =>
            (1, v10, f11)
theorem gsX_X5_takeBox_1_q0 {NF : Nat} {p1 : Int32} {v : Nat → Int32} {f : Nat → Nat → Int32} (h0 : (p1 < 0)) : gsX_X5_takeBox_1 NF p1 v f = (0, v, f) := by
  simp only [gsX_X5_takeBox_1, if_pos h0]
theorem gsX_X5_takeBox_1_q1 {NF : Nat} {p1 : Int32} {v : Nat → Int32} {f : Nat → Nat → Int32} (h0 : ¬ (p1 < 0)) (h1 : (3 ≤ p1)) : gsX_X5_takeBox_1 NF p1 v f = (0, v, f) := by
  simp only [gsX_X5_takeBox_1, if_neg h0, if_pos h1]
theorem gsX_X5_takeBox_1_q2 {NF : Nat} {p1 : Int32} {v : Nat → Int32} {f : Nat → Nat → Int32} {t3 : Int32} {t4 : Int32} {v7 : Nat → Int32} {f8 : Nat → Nat → Int32} {v10 : Nat → Int32} {f11 : Nat → Nat → Int32} (h0 : ¬ (p1 < 0)) (h1 : ¬ (3 ≤ p1)) (h2 : t3 = (v 20) >>> (p1 &&& 31)) (h3 : t4 = t3 &&& 1) (h4 : ¬ (t4 = 0)) (h5 : gsX_X1_loadFrom_2 NF p1 v f = (v7, f8)) (h6 : gsX_X5_forgetActs_1 NF v7 f8 = (v10, f11)) : gsX_X5_takeBox_1 NF p1 v f = (1, v10, f11) := by
  subst h2 h3
  simp only [gsX_X5_takeBox_1, if_neg h0, if_neg h1, if_neg h4, h5, h6]
theorem gsX_X5_takeBox_1_q3 {NF : Nat} {p1 : Int32} {v : Nat → Int32} {f : Nat → Nat → Int32} {t3 : Int32} {t4 : Int32} (h0 : ¬ (p1 < 0)) (h1 : ¬ (3 ≤ p1)) (h2 : t3 = (v 20) >>> (p1 &&& 31)) (h3 : t4 = t3 &&& 1) (h4 : (t4 = 0)) : gsX_X5_takeBox_1 NF p1 v f = (0, v, f) := by
  subst h2 h3
  simp only [gsX_X5_takeBox_1, if_neg h0, if_neg h1, if_pos h4]
def gsX_X10_back_1 (NF : Nat) (p1 : Int32) (v : Nat → Int32) (f : Nat → Nat → Int32) : Int32 × (Nat → Int32) × (Nat → Nat → Int32) :=
  match gsX_X5_takeBox_1 NF p1 v f with
  | (r1, v3, f4) =>
    if r1 = 1 then
      let r6 : Int32 := gsX_X1_today_1 NF v3 f4
      (r6, v3, f4)
    else
      ((-1), v3, f4)
theorem gsX_X10_back_1_q0 {NF : Nat} {p1 : Int32} {v : Nat → Int32} {f : Nat → Nat → Int32} {v3 : Nat → Int32} {f4 : Nat → Nat → Int32} {r6 : Int32} (h0 : gsX_X5_takeBox_1 NF p1 v f = (1, v3, f4)) (h2 : r6 = gsX_X1_today_1 NF v3 f4) : gsX_X10_back_1 NF p1 v f = (r6, v3, f4) := by
  subst h2
  simp only [gsX_X10_back_1, h0, ite11, ite01, if_true, if_false]
theorem gsX_X10_back_1_q1 {NF : Nat} {p1 : Int32} {v : Nat → Int32} {f : Nat → Nat → Int32} {v3 : Nat → Int32} {f4 : Nat → Nat → Int32} (h0 : gsX_X5_takeBox_1 NF p1 v f = (0, v3, f4)) : gsX_X10_back_1 NF p1 v f = ((-1), v3, f4) := by
  simp only [gsX_X10_back_1, h0, ite11, ite01, if_true, if_false]
def gsX_X1_fittedMen_1_L1 (NF : Nat) (v : Nat → Int32) : Nat → (Int32) → (Int32) → (Nat → Int32) → (Nat → Nat → Int32) → Int32 × (Nat → Int32) × (Nat → Nat → Int32)
  | 0, _, _, _, _ => (0, (fun _ => 0), (fun _ _ => 0))
  | n1 + 1, l1_1, l2_1, v1, f1 =>
    if (v 31) ≤ l2_1 then
      (l1_1, v1, f1)
    else
      let r7 : Int32 := gsX_X1_wears_1 NF l2_1 v1 f1
      match gsX_X1_fits_1 NF l2_1 r7 v1 f1 with
      | (r9, v11, f12) =>
        if r9 = 1 then
          let t14 : Int32 := 1 <<< (l2_1 &&& 31)
          let t15 : Int32 := l1_1 ||| t14
          let t16 : Int32 := l2_1 + 1
          gsX_X1_fittedMen_1_L1 NF v n1 t15 t16 v11 f12
        else
          let t18 : Int32 := l2_1 + 1
          gsX_X1_fittedMen_1_L1 NF v n1 l1_1 t18 v11 f12
def gsX_X1_fittedMen_1 (NF : Nat) (v : Nat → Int32) (f : Nat → Nat → Int32) : Int32 × (Nat → Int32) × (Nat → Nat → Int32) :=
  gsX_X1_fittedMen_1_L1 NF v (4294967296 + NF) 0 0 v f
theorem gsX_X1_fittedMen_1_q3 {NF : Nat} {v : Nat → Int32} {f : Nat → Nat → Int32}  : gsX_X1_fittedMen_1 NF v f = gsX_X1_fittedMen_1_L1 NF v (4294967296 + NF) 0 0 v f := by
  simp only [gsX_X1_fittedMen_1]
theorem gsX_X1_fittedMen_1_q0 {NF : Nat} {v : Nat → Int32} {n1 : Nat} {l1_1 : Int32} {l2_1 : Int32} {v1 : Nat → Int32} {f1 : Nat → Nat → Int32} (h0 : ((v 31) ≤ l2_1)) : gsX_X1_fittedMen_1_L1 NF v (n1 + 1) l1_1 l2_1 v1 f1 = (l1_1, v1, f1) := by
  simp only [gsX_X1_fittedMen_1_L1, if_pos h0]
theorem gsX_X1_fittedMen_1_q1 {NF : Nat} {v : Nat → Int32} {n1 : Nat} {l1_1 : Int32} {l2_1 : Int32} {v1 : Nat → Int32} {f1 : Nat → Nat → Int32} {r7 : Int32} {v11 : Nat → Int32} {f12 : Nat → Nat → Int32} {t14 : Int32} {t15 : Int32} {t16 : Int32} (h0 : ¬ ((v 31) ≤ l2_1)) (h1 : r7 = gsX_X1_wears_1 NF l2_1 v1 f1) (h2 : gsX_X1_fits_1 NF l2_1 r7 v1 f1 = (1, v11, f12)) (h4 : t14 = 1 <<< (l2_1 &&& 31)) (h5 : t15 = l1_1 ||| t14) (h6 : t16 = l2_1 + 1) : gsX_X1_fittedMen_1_L1 NF v (n1 + 1) l1_1 l2_1 v1 f1 = gsX_X1_fittedMen_1_L1 NF v n1 t15 t16 v11 f12 := by
  subst h1 h4 h5 h6
  simp only [gsX_X1_fittedMen_1_L1, if_neg h0, h2, ite11, ite01, if_true, if_false]
theorem gsX_X1_fittedMen_1_q2 {NF : Nat} {v : Nat → Int32} {n1 : Nat} {l1_1 : Int32} {l2_1 : Int32} {v1 : Nat → Int32} {f1 : Nat → Nat → Int32} {r7 : Int32} {v11 : Nat → Int32} {f12 : Nat → Nat → Int32} {t18 : Int32} (h0 : ¬ ((v 31) ≤ l2_1)) (h1 : r7 = gsX_X1_wears_1 NF l2_1 v1 f1) (h2 : gsX_X1_fits_1 NF l2_1 r7 v1 f1 = (0, v11, f12)) (h4 : t18 = l2_1 + 1) : gsX_X1_fittedMen_1_L1 NF v (n1 + 1) l1_1 l2_1 v1 f1 = gsX_X1_fittedMen_1_L1 NF v n1 l1_1 t18 v11 f12 := by
  subst h1 h4
  simp only [gsX_X1_fittedMen_1_L1, if_neg h0, h2, ite11, ite01, if_true, if_false]
def gsX_X10_fitted_1 (NF : Nat) (v : Nat → Int32) (f : Nat → Nat → Int32) : Int32 × (Nat → Int32) × (Nat → Nat → Int32) :=
  match gsX_X1_fittedMen_1 NF v f with
  | (r1, v3, f4) =>
    (r1, v3, f4)
theorem gsX_X10_fitted_1_q0 {NF : Nat} {v : Nat → Int32} {f : Nat → Nat → Int32} {r1 : Int32} {v3 : Nat → Int32} {f4 : Nat → Nat → Int32} (h0 : gsX_X1_fittedMen_1 NF v f = (r1, v3, f4)) : gsX_X10_fitted_1 NF v f = (r1, v3, f4) := by
  simp only [gsX_X10_fitted_1, h0]
def gsX_X1_wearers_1_L1 (NF : Nat) (v : Nat → Int32) (f : Nat → Nat → Int32) : Nat → (Int32) → (Int32) → Int32
  | 0, _, _ => 0
  | n1 + 1, l1_1, l2_1 =>
    if (v 31) ≤ l2_1 then
      l1_1
    else
      let r7 : Int32 := gsX_X1_wears_1 NF l2_1 v f
      if r7 = (-1) then
        let t10 : Int32 := l2_1 + 1
        gsX_X1_wearers_1_L1 NF v f n1 l1_1 t10
      else
        let t12 : Int32 := 1 <<< (l2_1 &&& 31)
        let t13 : Int32 := l1_1 ||| t12
        let t14 : Int32 := l2_1 + 1
        gsX_X1_wearers_1_L1 NF v f n1 t13 t14
def gsX_X1_wearers_1 (NF : Nat) (v : Nat → Int32) (f : Nat → Nat → Int32) : Int32 :=
  gsX_X1_wearers_1_L1 NF v f (4294967296 + NF) 0 0
theorem gsX_X1_wearers_1_q3 {NF : Nat} {v : Nat → Int32} {f : Nat → Nat → Int32}  : gsX_X1_wearers_1 NF v f = gsX_X1_wearers_1_L1 NF v f (4294967296 + NF) 0 0 := by
  simp only [gsX_X1_wearers_1]
theorem gsX_X1_wearers_1_q0 {NF : Nat} {v : Nat → Int32} {f : Nat → Nat → Int32} {n1 : Nat} {l1_1 : Int32} {l2_1 : Int32} (h0 : ((v 31) ≤ l2_1)) : gsX_X1_wearers_1_L1 NF v f (n1 + 1) l1_1 l2_1 = l1_1 := by
  simp only [gsX_X1_wearers_1_L1, if_pos h0]
theorem gsX_X1_wearers_1_q1 {NF : Nat} {v : Nat → Int32} {f : Nat → Nat → Int32} {n1 : Nat} {l1_1 : Int32} {l2_1 : Int32} {r7 : Int32} {t10 : Int32} (h0 : ¬ ((v 31) ≤ l2_1)) (h1 : r7 = gsX_X1_wears_1 NF l2_1 v f) (h2 : (r7 = (-1))) (h3 : t10 = l2_1 + 1) : gsX_X1_wearers_1_L1 NF v f (n1 + 1) l1_1 l2_1 = gsX_X1_wearers_1_L1 NF v f n1 l1_1 t10 := by
  subst h1 h3
  simp only [gsX_X1_wearers_1_L1, if_neg h0, if_pos h2]
theorem gsX_X1_wearers_1_q2 {NF : Nat} {v : Nat → Int32} {f : Nat → Nat → Int32} {n1 : Nat} {l1_1 : Int32} {l2_1 : Int32} {r7 : Int32} {t12 : Int32} {t13 : Int32} {t14 : Int32} (h0 : ¬ ((v 31) ≤ l2_1)) (h1 : r7 = gsX_X1_wears_1 NF l2_1 v f) (h2 : ¬ (r7 = (-1))) (h3 : t12 = 1 <<< (l2_1 &&& 31)) (h4 : t13 = l1_1 ||| t12) (h5 : t14 = l2_1 + 1) : gsX_X1_wearers_1_L1 NF v f (n1 + 1) l1_1 l2_1 = gsX_X1_wearers_1_L1 NF v f n1 t13 t14 := by
  subst h1 h3 h4 h5
  simp only [gsX_X1_wearers_1_L1, if_neg h0, if_neg h2]
def gsX_X2_wideTogether_1_L1 (NF : Nat) (p1 : Int32) (v : Nat → Int32) (f : Nat → Nat → Int32) : Nat → (Int32) → (Int32) → Int32
  | 0, _, _ => 0
  | n1 + 1, l2_1, l3_1 =>
    if (v 31) ≤ l3_1 then
      l2_1
    else
      let t7 : Int32 := p1 >>> (l3_1 &&& 31)
      let t8 : Int32 := t7 &&& 1
      if t8 = 0 then
        let t10 : Int32 := l3_1 + 1
        gsX_X2_wideTogether_1_L1 NF p1 v f n1 l2_1 t10
      else
        let r12 : Int32 := gsX_X1_wears_1 NF l3_1 v f
        let r14 : Int32 := gsX_X1_part_1 NF 1 r12 v f
        let t16 : Int32 := l2_1 + r14
        let t17 : Int32 := l3_1 + 1
        gsX_X2_wideTogether_1_L1 NF p1 v f n1 t16 t17
def gsX_X2_wideTogether_1 (NF : Nat) (p1 : Int32) (v : Nat → Int32) (f : Nat → Nat → Int32) : Int32 :=
  gsX_X2_wideTogether_1_L1 NF p1 v f (4294967296 + NF) 0 0
theorem gsX_X2_wideTogether_1_q3 {NF : Nat} {p1 : Int32} {v : Nat → Int32} {f : Nat → Nat → Int32}  : gsX_X2_wideTogether_1 NF p1 v f = gsX_X2_wideTogether_1_L1 NF p1 v f (4294967296 + NF) 0 0 := by
  simp only [gsX_X2_wideTogether_1]
theorem gsX_X2_wideTogether_1_q0 {NF : Nat} {p1 : Int32} {v : Nat → Int32} {f : Nat → Nat → Int32} {n1 : Nat} {l2_1 : Int32} {l3_1 : Int32} (h0 : ((v 31) ≤ l3_1)) : gsX_X2_wideTogether_1_L1 NF p1 v f (n1 + 1) l2_1 l3_1 = l2_1 := by
  simp only [gsX_X2_wideTogether_1_L1, if_pos h0]
theorem gsX_X2_wideTogether_1_q1 {NF : Nat} {p1 : Int32} {v : Nat → Int32} {f : Nat → Nat → Int32} {n1 : Nat} {l2_1 : Int32} {l3_1 : Int32} {t7 : Int32} {t8 : Int32} {t10 : Int32} (h0 : ¬ ((v 31) ≤ l3_1)) (h1 : t7 = p1 >>> (l3_1 &&& 31)) (h2 : t8 = t7 &&& 1) (h3 : (t8 = 0)) (h4 : t10 = l3_1 + 1) : gsX_X2_wideTogether_1_L1 NF p1 v f (n1 + 1) l2_1 l3_1 = gsX_X2_wideTogether_1_L1 NF p1 v f n1 l2_1 t10 := by
  subst h1 h2 h4
  simp only [gsX_X2_wideTogether_1_L1, if_neg h0, if_pos h3]
theorem gsX_X2_wideTogether_1_q2 {NF : Nat} {p1 : Int32} {v : Nat → Int32} {f : Nat → Nat → Int32} {n1 : Nat} {l2_1 : Int32} {l3_1 : Int32} {t7 : Int32} {t8 : Int32} {r12 : Int32} {r14 : Int32} {t16 : Int32} {t17 : Int32} (h0 : ¬ ((v 31) ≤ l3_1)) (h1 : t7 = p1 >>> (l3_1 &&& 31)) (h2 : t8 = t7 &&& 1) (h3 : ¬ (t8 = 0)) (h4 : r12 = gsX_X1_wears_1 NF l3_1 v f) (h5 : r14 = gsX_X1_part_1 NF 1 r12 v f) (h6 : t16 = l2_1 + r14) (h7 : t17 = l3_1 + 1) : gsX_X2_wideTogether_1_L1 NF p1 v f (n1 + 1) l2_1 l3_1 = gsX_X2_wideTogether_1_L1 NF p1 v f n1 t16 t17 := by
  subst h1 h2 h4 h5 h6 h7
  simp only [gsX_X2_wideTogether_1_L1, if_neg h0, if_neg h3]
def gsX_X10_breadth_1 (NF : Nat) (v : Nat → Int32) (f : Nat → Nat → Int32) : Int32 :=
  let r1 : Int32 := gsX_X1_wearers_1 NF v f
  let r3 : Int32 := gsX_X2_wideTogether_1 NF r1 v f
  r3
theorem gsX_X10_breadth_1_q0 {NF : Nat} {v : Nat → Int32} {f : Nat → Nat → Int32} {r1 : Int32} {r3 : Int32} (h0 : r1 = gsX_X1_wearers_1 NF v f) (h1 : r3 = gsX_X2_wideTogether_1 NF r1 v f) : gsX_X10_breadth_1 NF v f = r3 := by
  subst h0 h1
  simp only [gsX_X10_breadth_1]
def gsX_J6_bitCount_0f7a4_1 (NF : Nat) (p0 : Int32) (v : Nat → Int32) (f : Nat → Nat → Int32) : Int32 :=
  let t1 : Int32 := (p0.toUInt32 >>> ((1 : Int32).toUInt32 &&& Int32.toUInt32 31)).toInt32
  let t2 : Int32 := t1 &&& 1431655765
  let t3 : Int32 := p0 - t2
  let t4 : Int32 := t3 &&& 858993459
  let t5 : Int32 := (t3.toUInt32 >>> ((2 : Int32).toUInt32 &&& Int32.toUInt32 31)).toInt32
  let t6 : Int32 := t5 &&& 858993459
  let t7 : Int32 := t4 + t6
  let t8 : Int32 := (t7.toUInt32 >>> ((4 : Int32).toUInt32 &&& Int32.toUInt32 31)).toInt32
  let t9 : Int32 := t7 + t8
  let t10 : Int32 := t9 &&& 252645135
  let t11 : Int32 := (t10.toUInt32 >>> ((8 : Int32).toUInt32 &&& Int32.toUInt32 31)).toInt32
  let t12 : Int32 := t10 + t11
  let t13 : Int32 := (t12.toUInt32 >>> ((16 : Int32).toUInt32 &&& Int32.toUInt32 31)).toInt32
  let t14 : Int32 := t12 + t13
  let t15 : Int32 := t14 &&& 63
  t15
theorem gsX_J6_bitCount_0f7a4_1_q0 {NF : Nat} {p0 : Int32} {v : Nat → Int32} {f : Nat → Nat → Int32} {t1 : Int32} {t2 : Int32} {t3 : Int32} {t4 : Int32} {t5 : Int32} {t6 : Int32} {t7 : Int32} {t8 : Int32} {t9 : Int32} {t10 : Int32} {t11 : Int32} {t12 : Int32} {t13 : Int32} {t14 : Int32} {t15 : Int32} (h0 : t1 = (p0.toUInt32 >>> ((1 : Int32).toUInt32 &&& Int32.toUInt32 31)).toInt32) (h1 : t2 = t1 &&& 1431655765) (h2 : t3 = p0 - t2) (h3 : t4 = t3 &&& 858993459) (h4 : t5 = (t3.toUInt32 >>> ((2 : Int32).toUInt32 &&& Int32.toUInt32 31)).toInt32) (h5 : t6 = t5 &&& 858993459) (h6 : t7 = t4 + t6) (h7 : t8 = (t7.toUInt32 >>> ((4 : Int32).toUInt32 &&& Int32.toUInt32 31)).toInt32) (h8 : t9 = t7 + t8) (h9 : t10 = t9 &&& 252645135) (h10 : t11 = (t10.toUInt32 >>> ((8 : Int32).toUInt32 &&& Int32.toUInt32 31)).toInt32) (h11 : t12 = t10 + t11) (h12 : t13 = (t12.toUInt32 >>> ((16 : Int32).toUInt32 &&& Int32.toUInt32 31)).toInt32) (h13 : t14 = t12 + t13) (h14 : t15 = t14 &&& 63) : gsX_J6_bitCount_0f7a4_1 NF p0 v f = t15 := by
  subst h0 h1 h2 h3 h4 h5 h6 h7 h8 h9 h10 h11 h12 h13 h14
  simp only [gsX_J6_bitCount_0f7a4_1]
def gsX_X2_frontOf_1_L4 (NF : Nat) (p1 : Int32) (v : Nat → Int32) (f : Nat → Nat → Int32) (t3 : Int32) : Nat → (Int32) → (Int32) → Int32
  | 0, _, _ => 0
  | n4 + 1, l2_4, l4_4 =>
    if 64 ≤ l4_4 then
      l2_4
    else
      if l2_4 = (-1) then
        let t7 : Int32 := l4_4 &&& t3
        if t7 = 0 then
          let r12 : Int32 := gsX_X2_wideTogether_1 NF l4_4 v f
          if r12 < p1 then
            let t17 : Int32 := l4_4 + 1
            gsX_X2_frontOf_1_L4 NF p1 v f t3 n4 l2_4 t17
          else
            let t22 : Int32 := l4_4 + 1
            gsX_X2_frontOf_1_L4 NF p1 v f t3 n4 l4_4 t22
        else
          let t9 : Int32 := l4_4 + 1
          gsX_X2_frontOf_1_L4 NF p1 v f t3 n4 l2_4 t9
      else
        let r25 : Int32 := gsX_J6_bitCount_0f7a4_1 NF l4_4 v f
        let r27 : Int32 := gsX_J6_bitCount_0f7a4_1 NF l2_4 v f
        if r27 ≤ r25 then
          let t32 : Int32 := l4_4 &&& t3
          if t32 = 0 then
            let t37 : Int32 := l4_4 + 1
            gsX_X2_frontOf_1_L4 NF p1 v f t3 n4 l2_4 t37
          else
            let t34 : Int32 := l4_4 + 1
            gsX_X2_frontOf_1_L4 NF p1 v f t3 n4 l2_4 t34
        else
          let t42 : Int32 := l4_4 &&& t3
          if t42 = 0 then
            let r47 : Int32 := gsX_X2_wideTogether_1 NF l4_4 v f
            if r47 < p1 then
              let t52 : Int32 := l4_4 + 1
              gsX_X2_frontOf_1_L4 NF p1 v f t3 n4 l2_4 t52
            else
              let t57 : Int32 := l4_4 + 1
              gsX_X2_frontOf_1_L4 NF p1 v f t3 n4 l4_4 t57
          else
            let t44 : Int32 := l4_4 + 1
            gsX_X2_frontOf_1_L4 NF p1 v f t3 n4 l2_4 t44
def gsX_X2_frontOf_1 (NF : Nat) (p1 : Int32) (v : Nat → Int32) (f : Nat → Nat → Int32) : Int32 :=
  let r1 : Int32 := gsX_X1_wearers_1 NF v f
  let t3 : Int32 := r1 ^^^ (-1)
  gsX_X2_frontOf_1_L4 NF p1 v f t3 (4294967296 + NF) (-1) 0
theorem gsX_X2_frontOf_1_q9 {NF : Nat} {p1 : Int32} {v : Nat → Int32} {f : Nat → Nat → Int32} {r1 : Int32} {t3 : Int32} (h0 : r1 = gsX_X1_wearers_1 NF v f) (h1 : t3 = r1 ^^^ (-1)) : gsX_X2_frontOf_1 NF p1 v f = gsX_X2_frontOf_1_L4 NF p1 v f t3 (4294967296 + NF) (-1) 0 := by
  subst h0 h1
  simp only [gsX_X2_frontOf_1]
theorem gsX_X2_frontOf_1_q0 {NF : Nat} {p1 : Int32} {v : Nat → Int32} {f : Nat → Nat → Int32} {t3 : Int32} {n4 : Nat} {l2_4 : Int32} {l4_4 : Int32} (h0 : (64 ≤ l4_4)) : gsX_X2_frontOf_1_L4 NF p1 v f t3 (n4 + 1) l2_4 l4_4 = l2_4 := by
  simp only [gsX_X2_frontOf_1_L4, if_pos h0]
theorem gsX_X2_frontOf_1_q1 {NF : Nat} {p1 : Int32} {v : Nat → Int32} {f : Nat → Nat → Int32} {t3 : Int32} {n4 : Nat} {l2_4 : Int32} {l4_4 : Int32} {t7 : Int32} {t9 : Int32} (h0 : ¬ (64 ≤ l4_4)) (h1 : (l2_4 = (-1))) (h2 : t7 = l4_4 &&& t3) (h3 : ¬ (t7 = 0)) (h4 : t9 = l4_4 + 1) : gsX_X2_frontOf_1_L4 NF p1 v f t3 (n4 + 1) l2_4 l4_4 = gsX_X2_frontOf_1_L4 NF p1 v f t3 n4 l2_4 t9 := by
  subst h2 h4
  simp only [gsX_X2_frontOf_1_L4, if_neg h0, if_pos h1, if_neg h3]
theorem gsX_X2_frontOf_1_q2 {NF : Nat} {p1 : Int32} {v : Nat → Int32} {f : Nat → Nat → Int32} {t3 : Int32} {n4 : Nat} {l2_4 : Int32} {l4_4 : Int32} {t7 : Int32} {r12 : Int32} {t17 : Int32} (h0 : ¬ (64 ≤ l4_4)) (h1 : (l2_4 = (-1))) (h2 : t7 = l4_4 &&& t3) (h3 : (t7 = 0)) (h4 : r12 = gsX_X2_wideTogether_1 NF l4_4 v f) (h5 : (r12 < p1)) (h6 : t17 = l4_4 + 1) : gsX_X2_frontOf_1_L4 NF p1 v f t3 (n4 + 1) l2_4 l4_4 = gsX_X2_frontOf_1_L4 NF p1 v f t3 n4 l2_4 t17 := by
  subst h2 h4 h6
  simp only [gsX_X2_frontOf_1_L4, if_neg h0, if_pos h1, if_pos h3, if_pos h5]
theorem gsX_X2_frontOf_1_q3 {NF : Nat} {p1 : Int32} {v : Nat → Int32} {f : Nat → Nat → Int32} {t3 : Int32} {n4 : Nat} {l2_4 : Int32} {l4_4 : Int32} {t7 : Int32} {r12 : Int32} {t22 : Int32} (h0 : ¬ (64 ≤ l4_4)) (h1 : (l2_4 = (-1))) (h2 : t7 = l4_4 &&& t3) (h3 : (t7 = 0)) (h4 : r12 = gsX_X2_wideTogether_1 NF l4_4 v f) (h5 : ¬ (r12 < p1)) (h6 : t22 = l4_4 + 1) : gsX_X2_frontOf_1_L4 NF p1 v f t3 (n4 + 1) l2_4 l4_4 = gsX_X2_frontOf_1_L4 NF p1 v f t3 n4 l4_4 t22 := by
  subst h2 h4 h6
  simp only [gsX_X2_frontOf_1_L4, if_neg h0, if_pos h1, if_pos h3, if_neg h5]
theorem gsX_X2_frontOf_1_q4 {NF : Nat} {p1 : Int32} {v : Nat → Int32} {f : Nat → Nat → Int32} {t3 : Int32} {n4 : Nat} {l2_4 : Int32} {l4_4 : Int32} {r25 : Int32} {r27 : Int32} {t32 : Int32} {t34 : Int32} (h0 : ¬ (64 ≤ l4_4)) (h1 : ¬ (l2_4 = (-1))) (h2 : r25 = gsX_J6_bitCount_0f7a4_1 NF l4_4 v f) (h3 : r27 = gsX_J6_bitCount_0f7a4_1 NF l2_4 v f) (h4 : (r27 ≤ r25)) (h5 : t32 = l4_4 &&& t3) (h6 : ¬ (t32 = 0)) (h7 : t34 = l4_4 + 1) : gsX_X2_frontOf_1_L4 NF p1 v f t3 (n4 + 1) l2_4 l4_4 = gsX_X2_frontOf_1_L4 NF p1 v f t3 n4 l2_4 t34 := by
  subst h2 h3 h5 h7
  simp only [gsX_X2_frontOf_1_L4, if_neg h0, if_neg h1, if_pos h4, if_neg h6]
theorem gsX_X2_frontOf_1_q5 {NF : Nat} {p1 : Int32} {v : Nat → Int32} {f : Nat → Nat → Int32} {t3 : Int32} {n4 : Nat} {l2_4 : Int32} {l4_4 : Int32} {r25 : Int32} {r27 : Int32} {t32 : Int32} {t37 : Int32} (h0 : ¬ (64 ≤ l4_4)) (h1 : ¬ (l2_4 = (-1))) (h2 : r25 = gsX_J6_bitCount_0f7a4_1 NF l4_4 v f) (h3 : r27 = gsX_J6_bitCount_0f7a4_1 NF l2_4 v f) (h4 : (r27 ≤ r25)) (h5 : t32 = l4_4 &&& t3) (h6 : (t32 = 0)) (h7 : t37 = l4_4 + 1) : gsX_X2_frontOf_1_L4 NF p1 v f t3 (n4 + 1) l2_4 l4_4 = gsX_X2_frontOf_1_L4 NF p1 v f t3 n4 l2_4 t37 := by
  subst h2 h3 h5 h7
  simp only [gsX_X2_frontOf_1_L4, if_neg h0, if_neg h1, if_pos h4, if_pos h6]
theorem gsX_X2_frontOf_1_q6 {NF : Nat} {p1 : Int32} {v : Nat → Int32} {f : Nat → Nat → Int32} {t3 : Int32} {n4 : Nat} {l2_4 : Int32} {l4_4 : Int32} {r25 : Int32} {r27 : Int32} {t42 : Int32} {t44 : Int32} (h0 : ¬ (64 ≤ l4_4)) (h1 : ¬ (l2_4 = (-1))) (h2 : r25 = gsX_J6_bitCount_0f7a4_1 NF l4_4 v f) (h3 : r27 = gsX_J6_bitCount_0f7a4_1 NF l2_4 v f) (h4 : ¬ (r27 ≤ r25)) (h5 : t42 = l4_4 &&& t3) (h6 : ¬ (t42 = 0)) (h7 : t44 = l4_4 + 1) : gsX_X2_frontOf_1_L4 NF p1 v f t3 (n4 + 1) l2_4 l4_4 = gsX_X2_frontOf_1_L4 NF p1 v f t3 n4 l2_4 t44 := by
  subst h2 h3 h5 h7
  simp only [gsX_X2_frontOf_1_L4, if_neg h0, if_neg h1, if_neg h4, if_neg h6]
theorem gsX_X2_frontOf_1_q7 {NF : Nat} {p1 : Int32} {v : Nat → Int32} {f : Nat → Nat → Int32} {t3 : Int32} {n4 : Nat} {l2_4 : Int32} {l4_4 : Int32} {r25 : Int32} {r27 : Int32} {t42 : Int32} {r47 : Int32} {t52 : Int32} (h0 : ¬ (64 ≤ l4_4)) (h1 : ¬ (l2_4 = (-1))) (h2 : r25 = gsX_J6_bitCount_0f7a4_1 NF l4_4 v f) (h3 : r27 = gsX_J6_bitCount_0f7a4_1 NF l2_4 v f) (h4 : ¬ (r27 ≤ r25)) (h5 : t42 = l4_4 &&& t3) (h6 : (t42 = 0)) (h7 : r47 = gsX_X2_wideTogether_1 NF l4_4 v f) (h8 : (r47 < p1)) (h9 : t52 = l4_4 + 1) : gsX_X2_frontOf_1_L4 NF p1 v f t3 (n4 + 1) l2_4 l4_4 = gsX_X2_frontOf_1_L4 NF p1 v f t3 n4 l2_4 t52 := by
  subst h2 h3 h5 h7 h9
  simp only [gsX_X2_frontOf_1_L4, if_neg h0, if_neg h1, if_neg h4, if_pos h6, if_pos h8]
theorem gsX_X2_frontOf_1_q8 {NF : Nat} {p1 : Int32} {v : Nat → Int32} {f : Nat → Nat → Int32} {t3 : Int32} {n4 : Nat} {l2_4 : Int32} {l4_4 : Int32} {r25 : Int32} {r27 : Int32} {t42 : Int32} {r47 : Int32} {t57 : Int32} (h0 : ¬ (64 ≤ l4_4)) (h1 : ¬ (l2_4 = (-1))) (h2 : r25 = gsX_J6_bitCount_0f7a4_1 NF l4_4 v f) (h3 : r27 = gsX_J6_bitCount_0f7a4_1 NF l2_4 v f) (h4 : ¬ (r27 ≤ r25)) (h5 : t42 = l4_4 &&& t3) (h6 : (t42 = 0)) (h7 : r47 = gsX_X2_wideTogether_1 NF l4_4 v f) (h8 : ¬ (r47 < p1)) (h9 : t57 = l4_4 + 1) : gsX_X2_frontOf_1_L4 NF p1 v f t3 (n4 + 1) l2_4 l4_4 = gsX_X2_frontOf_1_L4 NF p1 v f t3 n4 l4_4 t57 := by
  subst h2 h3 h5 h7 h9
  simp only [gsX_X2_frontOf_1_L4, if_neg h0, if_neg h1, if_neg h4, if_pos h6, if_neg h8]
def gsX_X10_front_1 (NF : Nat) (p1 : Int32) (p2 : Int32) (v : Nat → Int32) (f : Nat → Nat → Int32) : Int32 :=
  if p1 < 0 then
    (-1)
  else
    if 999 < p1 then
      (-1)
    else
      if p2 < 0 then
        (-1)
      else
        if p2 ≤ 1 then
          let r5 : Int32 := gsX_X2_frontOf_1 NF p1 v f
          if p2 = 1 then
            r5
          else
            if r5 = (-1) then
              r5
            else
              let r9 : Int32 := gsX_J6_bitCount_0f7a4_1 NF r5 v f
              r9
        else
          (-1)
theorem gsX_X10_front_1_q0 {NF : Nat} {p1 : Int32} {p2 : Int32} {v : Nat → Int32} {f : Nat → Nat → Int32} (h0 : (p1 < 0)) : gsX_X10_front_1 NF p1 p2 v f = (-1) := by
  simp only [gsX_X10_front_1, if_pos h0]
theorem gsX_X10_front_1_q1 {NF : Nat} {p1 : Int32} {p2 : Int32} {v : Nat → Int32} {f : Nat → Nat → Int32} (h0 : ¬ (p1 < 0)) (h1 : (999 < p1)) : gsX_X10_front_1 NF p1 p2 v f = (-1) := by
  simp only [gsX_X10_front_1, if_neg h0, if_pos h1]
theorem gsX_X10_front_1_q2 {NF : Nat} {p1 : Int32} {p2 : Int32} {v : Nat → Int32} {f : Nat → Nat → Int32} (h0 : ¬ (p1 < 0)) (h1 : ¬ (999 < p1)) (h2 : (p2 < 0)) : gsX_X10_front_1 NF p1 p2 v f = (-1) := by
  simp only [gsX_X10_front_1, if_neg h0, if_neg h1, if_pos h2]
theorem gsX_X10_front_1_q3 {NF : Nat} {p1 : Int32} {p2 : Int32} {v : Nat → Int32} {f : Nat → Nat → Int32} {r5 : Int32} (h0 : ¬ (p1 < 0)) (h1 : ¬ (999 < p1)) (h2 : ¬ (p2 < 0)) (h3 : (p2 ≤ 1)) (h4 : r5 = gsX_X2_frontOf_1 NF p1 v f) (h5 : (p2 = 1)) : gsX_X10_front_1 NF p1 p2 v f = r5 := by
  subst h4
  simp only [gsX_X10_front_1, if_neg h0, if_neg h1, if_neg h2, if_pos h3, if_pos h5]
theorem gsX_X10_front_1_q4 {NF : Nat} {p1 : Int32} {p2 : Int32} {v : Nat → Int32} {f : Nat → Nat → Int32} {r5 : Int32} {r9 : Int32} (h0 : ¬ (p1 < 0)) (h1 : ¬ (999 < p1)) (h2 : ¬ (p2 < 0)) (h3 : (p2 ≤ 1)) (h4 : r5 = gsX_X2_frontOf_1 NF p1 v f) (h5 : ¬ (p2 = 1)) (h6 : ¬ (r5 = (-1))) (h7 : r9 = gsX_J6_bitCount_0f7a4_1 NF r5 v f) : gsX_X10_front_1 NF p1 p2 v f = r9 := by
  subst h4 h7
  simp only [gsX_X10_front_1, if_neg h0, if_neg h1, if_neg h2, if_pos h3, if_neg h5, if_neg h6]
theorem gsX_X10_front_1_q5 {NF : Nat} {p1 : Int32} {p2 : Int32} {v : Nat → Int32} {f : Nat → Nat → Int32} {r5 : Int32} (h0 : ¬ (p1 < 0)) (h1 : ¬ (999 < p1)) (h2 : ¬ (p2 < 0)) (h3 : (p2 ≤ 1)) (h4 : r5 = gsX_X2_frontOf_1 NF p1 v f) (h5 : ¬ (p2 = 1)) (h6 : (r5 = (-1))) : gsX_X10_front_1 NF p1 p2 v f = r5 := by
  subst h4
  simp only [gsX_X10_front_1, if_neg h0, if_neg h1, if_neg h2, if_pos h3, if_neg h5, if_pos h6]
theorem gsX_X10_front_1_q6 {NF : Nat} {p1 : Int32} {p2 : Int32} {v : Nat → Int32} {f : Nat → Nat → Int32} (h0 : ¬ (p1 < 0)) (h1 : ¬ (999 < p1)) (h2 : ¬ (p2 < 0)) (h3 : ¬ (p2 ≤ 1)) : gsX_X10_front_1 NF p1 p2 v f = (-1) := by
  simp only [gsX_X10_front_1, if_neg h0, if_neg h1, if_neg h2, if_neg h3]
def gsX_X3_rotaCount_1_L1 (NF : Nat) (p1 : Int32) (v : Nat → Int32) : Nat → (Int32) → (Int32) → (Nat → Int32) → (Nat → Nat → Int32) → Int32 × (Nat → Int32) × (Nat → Nat → Int32)
  | 0, _, _, _, _ => (0, (fun _ => 0), (fun _ _ => 0))
  | n1 + 1, l2_1, l3_1, v1, f1 =>
    if (v 31) ≤ l3_1 then
      (l2_1, v1, f1)
    else
      let t7 : Int32 := l3_1 + p1
      if (v 31) ≤ t7 then
        let t10 : Int32 := t7 - (v 31)
        let r11 : Int32 := gsX_X1_wears_1 NF t10 v1 f1
        match gsX_X1_fits_1 NF l3_1 r11 v1 f1 with
        | (r13, v15, f16) =>
          if r13 = 1 then
            let t18 : Int32 := l2_1 + 1
            let t19 : Int32 := l3_1 + 1
            gsX_X3_rotaCount_1_L1 NF p1 v n1 t18 t19 v15 f16
          else
            let t21 : Int32 := l3_1 + 1
            gsX_X3_rotaCount_1_L1 NF p1 v n1 l2_1 t21 v15 f16
      else
        let r24 : Int32 := gsX_X1_wears_1 NF t7 v1 f1
        match gsX_X1_fits_1 NF l3_1 r24 v1 f1 with
        | (r26, v28, f29) =>
          if r26 = 1 then
            let t31 : Int32 := l2_1 + 1
            let t32 : Int32 := l3_1 + 1
            gsX_X3_rotaCount_1_L1 NF p1 v n1 t31 t32 v28 f29
          else
            let t34 : Int32 := l3_1 + 1
            gsX_X3_rotaCount_1_L1 NF p1 v n1 l2_1 t34 v28 f29
def gsX_X3_rotaCount_1 (NF : Nat) (p1 : Int32) (v : Nat → Int32) (f : Nat → Nat → Int32) : Int32 × (Nat → Int32) × (Nat → Nat → Int32) :=
  gsX_X3_rotaCount_1_L1 NF p1 v (4294967296 + NF) 0 0 v f
theorem gsX_X3_rotaCount_1_q5 {NF : Nat} {p1 : Int32} {v : Nat → Int32} {f : Nat → Nat → Int32}  : gsX_X3_rotaCount_1 NF p1 v f = gsX_X3_rotaCount_1_L1 NF p1 v (4294967296 + NF) 0 0 v f := by
  simp only [gsX_X3_rotaCount_1]
theorem gsX_X3_rotaCount_1_q0 {NF : Nat} {p1 : Int32} {v : Nat → Int32} {n1 : Nat} {l2_1 : Int32} {l3_1 : Int32} {v1 : Nat → Int32} {f1 : Nat → Nat → Int32} (h0 : ((v 31) ≤ l3_1)) : gsX_X3_rotaCount_1_L1 NF p1 v (n1 + 1) l2_1 l3_1 v1 f1 = (l2_1, v1, f1) := by
  simp only [gsX_X3_rotaCount_1_L1, if_pos h0]
theorem gsX_X3_rotaCount_1_q1 {NF : Nat} {p1 : Int32} {v : Nat → Int32} {n1 : Nat} {l2_1 : Int32} {l3_1 : Int32} {v1 : Nat → Int32} {f1 : Nat → Nat → Int32} {t7 : Int32} {t10 : Int32} {r11 : Int32} {v15 : Nat → Int32} {f16 : Nat → Nat → Int32} {t18 : Int32} {t19 : Int32} (h0 : ¬ ((v 31) ≤ l3_1)) (h1 : t7 = l3_1 + p1) (h2 : ((v 31) ≤ t7)) (h3 : t10 = t7 - (v 31)) (h4 : r11 = gsX_X1_wears_1 NF t10 v1 f1) (h5 : gsX_X1_fits_1 NF l3_1 r11 v1 f1 = (1, v15, f16)) (h7 : t18 = l2_1 + 1) (h8 : t19 = l3_1 + 1) : gsX_X3_rotaCount_1_L1 NF p1 v (n1 + 1) l2_1 l3_1 v1 f1 = gsX_X3_rotaCount_1_L1 NF p1 v n1 t18 t19 v15 f16 := by
  subst h1 h3 h4 h7 h8
  simp only [gsX_X3_rotaCount_1_L1, if_neg h0, if_pos h2, h5, ite11, ite01, if_true, if_false]
theorem gsX_X3_rotaCount_1_q2 {NF : Nat} {p1 : Int32} {v : Nat → Int32} {n1 : Nat} {l2_1 : Int32} {l3_1 : Int32} {v1 : Nat → Int32} {f1 : Nat → Nat → Int32} {t7 : Int32} {t10 : Int32} {r11 : Int32} {v15 : Nat → Int32} {f16 : Nat → Nat → Int32} {t21 : Int32} (h0 : ¬ ((v 31) ≤ l3_1)) (h1 : t7 = l3_1 + p1) (h2 : ((v 31) ≤ t7)) (h3 : t10 = t7 - (v 31)) (h4 : r11 = gsX_X1_wears_1 NF t10 v1 f1) (h5 : gsX_X1_fits_1 NF l3_1 r11 v1 f1 = (0, v15, f16)) (h7 : t21 = l3_1 + 1) : gsX_X3_rotaCount_1_L1 NF p1 v (n1 + 1) l2_1 l3_1 v1 f1 = gsX_X3_rotaCount_1_L1 NF p1 v n1 l2_1 t21 v15 f16 := by
  subst h1 h3 h4 h7
  simp only [gsX_X3_rotaCount_1_L1, if_neg h0, if_pos h2, h5, ite11, ite01, if_true, if_false]
theorem gsX_X3_rotaCount_1_q3 {NF : Nat} {p1 : Int32} {v : Nat → Int32} {n1 : Nat} {l2_1 : Int32} {l3_1 : Int32} {v1 : Nat → Int32} {f1 : Nat → Nat → Int32} {t7 : Int32} {r24 : Int32} {v28 : Nat → Int32} {f29 : Nat → Nat → Int32} {t31 : Int32} {t32 : Int32} (h0 : ¬ ((v 31) ≤ l3_1)) (h1 : t7 = l3_1 + p1) (h2 : ¬ ((v 31) ≤ t7)) (h3 : r24 = gsX_X1_wears_1 NF t7 v1 f1) (h4 : gsX_X1_fits_1 NF l3_1 r24 v1 f1 = (1, v28, f29)) (h6 : t31 = l2_1 + 1) (h7 : t32 = l3_1 + 1) : gsX_X3_rotaCount_1_L1 NF p1 v (n1 + 1) l2_1 l3_1 v1 f1 = gsX_X3_rotaCount_1_L1 NF p1 v n1 t31 t32 v28 f29 := by
  subst h1 h3 h6 h7
  simp only [gsX_X3_rotaCount_1_L1, if_neg h0, if_neg h2, h4, ite11, ite01, if_true, if_false]
theorem gsX_X3_rotaCount_1_q4 {NF : Nat} {p1 : Int32} {v : Nat → Int32} {n1 : Nat} {l2_1 : Int32} {l3_1 : Int32} {v1 : Nat → Int32} {f1 : Nat → Nat → Int32} {t7 : Int32} {r24 : Int32} {v28 : Nat → Int32} {f29 : Nat → Nat → Int32} {t34 : Int32} (h0 : ¬ ((v 31) ≤ l3_1)) (h1 : t7 = l3_1 + p1) (h2 : ¬ ((v 31) ≤ t7)) (h3 : r24 = gsX_X1_wears_1 NF t7 v1 f1) (h4 : gsX_X1_fits_1 NF l3_1 r24 v1 f1 = (0, v28, f29)) (h6 : t34 = l3_1 + 1) : gsX_X3_rotaCount_1_L1 NF p1 v (n1 + 1) l2_1 l3_1 v1 f1 = gsX_X3_rotaCount_1_L1 NF p1 v n1 l2_1 t34 v28 f29 := by
  subst h1 h3 h6
  simp only [gsX_X3_rotaCount_1_L1, if_neg h0, if_neg h2, h4, ite11, ite01, if_true, if_false]
def gsX_X3_findRota_1_L1 (NF : Nat) (v : Nat → Int32) : Nat → (Int32) → (Nat → Int32) → (Nat → Nat → Int32) → (Nat → Int32) × (Nat → Nat → Int32)
  | 0, _, _, _ => ((fun _ => 0), (fun _ _ => 0))
  | n1 + 1, l1_1, v1, f1 =>
    if (v 31) ≤ l1_1 then
      (v1, f1)
    else
      match gsX_X3_rotaCount_1 NF l1_1 v1 f1 with
      | (r7, v9, f10) =>
        if r7 ≤ (v9 27) then
          let t14 : Int32 := l1_1 + 1
          gsX_X3_findRota_1_L1 NF v n1 t14 v9 f10
        else
          let t18 : Int32 := l1_1 + 1
          gsX_X3_findRota_1_L1 NF v n1 t18 (upd (upd v9 26 l1_1) 27 r7) f10
def gsX_X3_findRota_1 (NF : Nat) (v : Nat → Int32) (f : Nat → Nat → Int32) : (Nat → Int32) × (Nat → Nat → Int32) :=
  gsX_X3_findRota_1_L1 NF v (4294967296 + NF) 0 (upd (upd v 26 0) 27 (-1)) f
theorem gsX_X3_findRota_1_q3 {NF : Nat} {v : Nat → Int32} {f : Nat → Nat → Int32}  : gsX_X3_findRota_1 NF v f = gsX_X3_findRota_1_L1 NF v (4294967296 + NF) 0 (upd (upd v 26 0) 27 (-1)) f := by
  simp only [gsX_X3_findRota_1]
theorem gsX_X3_findRota_1_q0 {NF : Nat} {v : Nat → Int32} {n1 : Nat} {l1_1 : Int32} {v1 : Nat → Int32} {f1 : Nat → Nat → Int32} (h0 : ((v 31) ≤ l1_1)) : gsX_X3_findRota_1_L1 NF v (n1 + 1) l1_1 v1 f1 = (v1, f1) := by
  simp only [gsX_X3_findRota_1_L1, if_pos h0]
theorem gsX_X3_findRota_1_q1 {NF : Nat} {v : Nat → Int32} {n1 : Nat} {l1_1 : Int32} {v1 : Nat → Int32} {f1 : Nat → Nat → Int32} {r7 : Int32} {v9 : Nat → Int32} {f10 : Nat → Nat → Int32} {t14 : Int32} (h0 : ¬ ((v 31) ≤ l1_1)) (h1 : gsX_X3_rotaCount_1 NF l1_1 v1 f1 = (r7, v9, f10)) (h2 : (r7 ≤ (v9 27))) (h3 : t14 = l1_1 + 1) : gsX_X3_findRota_1_L1 NF v (n1 + 1) l1_1 v1 f1 = gsX_X3_findRota_1_L1 NF v n1 t14 v9 f10 := by
  subst h3
  simp only [gsX_X3_findRota_1_L1, if_neg h0, h1, if_pos h2]
theorem gsX_X3_findRota_1_q2 {NF : Nat} {v : Nat → Int32} {n1 : Nat} {l1_1 : Int32} {v1 : Nat → Int32} {f1 : Nat → Nat → Int32} {r7 : Int32} {v9 : Nat → Int32} {f10 : Nat → Nat → Int32} {t18 : Int32} (h0 : ¬ ((v 31) ≤ l1_1)) (h1 : gsX_X3_rotaCount_1 NF l1_1 v1 f1 = (r7, v9, f10)) (h2 : ¬ (r7 ≤ (v9 27))) (h3 : t18 = l1_1 + 1) : gsX_X3_findRota_1_L1 NF v (n1 + 1) l1_1 v1 f1 = gsX_X3_findRota_1_L1 NF v n1 t18 (upd (upd v9 26 l1_1) 27 r7) f10 := by
  subst h3
  simp only [gsX_X3_findRota_1_L1, if_neg h0, h1, if_neg h2]
def gsX_X10_rota_1 (NF : Nat) (p1 : Int32) (v : Nat → Int32) (f : Nat → Nat → Int32) : Int32 × (Nat → Int32) × (Nat → Nat → Int32) :=
  if (v 31) = 0 then
    ((-1), v, f)
  else
    if p1 < 0 then
      ((-1), v, f)
    else
      if p1 ≤ 1 then
        match gsX_X3_findRota_1 NF v f with
        | (v5, f6) =>
          if p1 = 0 then
            ((v5 26), v5, f6)
          else
            ((v5 27), v5, f6)
      else
        ((-1), v, f)
theorem gsX_X10_rota_1_q0 {NF : Nat} {p1 : Int32} {v : Nat → Int32} {f : Nat → Nat → Int32} (h0 : ((v 31) = 0)) : gsX_X10_rota_1 NF p1 v f = ((-1), v, f) := by
  simp only [gsX_X10_rota_1, if_pos h0]
theorem gsX_X10_rota_1_q1 {NF : Nat} {p1 : Int32} {v : Nat → Int32} {f : Nat → Nat → Int32} (h0 : ¬ ((v 31) = 0)) (h1 : (p1 < 0)) : gsX_X10_rota_1 NF p1 v f = ((-1), v, f) := by
  simp only [gsX_X10_rota_1, if_neg h0, if_pos h1]
theorem gsX_X10_rota_1_q2 {NF : Nat} {p1 : Int32} {v : Nat → Int32} {f : Nat → Nat → Int32} {v5 : Nat → Int32} {f6 : Nat → Nat → Int32} (h0 : ¬ ((v 31) = 0)) (h1 : ¬ (p1 < 0)) (h2 : (p1 ≤ 1)) (h3 : gsX_X3_findRota_1 NF v f = (v5, f6)) (h4 : ¬ (p1 = 0)) : gsX_X10_rota_1 NF p1 v f = ((v5 27), v5, f6) := by
  simp only [gsX_X10_rota_1, if_neg h0, if_neg h1, if_pos h2, h3, if_neg h4]
theorem gsX_X10_rota_1_q3 {NF : Nat} {p1 : Int32} {v : Nat → Int32} {f : Nat → Nat → Int32} {v5 : Nat → Int32} {f6 : Nat → Nat → Int32} (h0 : ¬ ((v 31) = 0)) (h1 : ¬ (p1 < 0)) (h2 : (p1 ≤ 1)) (h3 : gsX_X3_findRota_1 NF v f = (v5, f6)) (h4 : (p1 = 0)) : gsX_X10_rota_1 NF p1 v f = ((v5 26), v5, f6) := by
  simp only [gsX_X10_rota_1, if_neg h0, if_neg h1, if_pos h2, h3, if_pos h4]
theorem gsX_X10_rota_1_q4 {NF : Nat} {p1 : Int32} {v : Nat → Int32} {f : Nat → Nat → Int32} (h0 : ¬ ((v 31) = 0)) (h1 : ¬ (p1 < 0)) (h2 : ¬ (p1 ≤ 1)) : gsX_X10_rota_1 NF p1 v f = ((-1), v, f) := by
  simp only [gsX_X10_rota_1, if_neg h0, if_neg h1, if_neg h2]
def gsY_X11_four_1_L1 (NF : Nat) (p1 : Int32) : Nat → (Int32) → (Nat → Int32) → (Nat → Nat → Int32) → (Int64) → (Nat → Int64) → (Nat → Int32) × (Nat → Nat → Int32) × (Int64) × (Nat → Int64)
  | 0, _, _, _, _, _ => ((fun _ => 0), (fun _ _ => 0), 0, (fun _ => 0))
  | n1 + 1, l2_1, v1, f1, w1, g1 =>
    if l2_1 < 0 then
      (v1, f1, w1, g1)
    else
      let t3 : Int32 := p1 >>> (l2_1 &&& 31)
      let t4 : Int32 := t3 &&& 255
      let f5 : Nat → Nat → Int32 := upd2 f1 0 (upd (f1 0) (v1 0).toNatClampNeg t4)
      let t6 : Int32 := (v1 0) + 1
      let t8 : Int32 := l2_1 + (-8)
      gsY_X11_four_1_L1 NF p1 n1 t8 (upd v1 0 t6) f5 w1 g1
def gsY_X11_four_1 (NF : Nat) (p1 : Int32) (v : Nat → Int32) (f : Nat → Nat → Int32) (w : Int64) (g : Nat → Int64) : (Nat → Int32) × (Nat → Nat → Int32) × (Int64) × (Nat → Int64) :=
  gsY_X11_four_1_L1 NF p1 (4294967296 + NF) 24 v f w g
theorem gsY_X11_four_1_q2 {NF : Nat} {p1 : Int32} {v : Nat → Int32} {f : Nat → Nat → Int32} {w : Int64} {g : Nat → Int64}  : gsY_X11_four_1 NF p1 v f w g = gsY_X11_four_1_L1 NF p1 (4294967296 + NF) 24 v f w g := by
  simp only [gsY_X11_four_1]
theorem gsY_X11_four_1_q0 {NF : Nat} {p1 : Int32} {n1 : Nat} {l2_1 : Int32} {v1 : Nat → Int32} {f1 : Nat → Nat → Int32} {w1 : Int64} {g1 : Nat → Int64} (h0 : (l2_1 < 0)) : gsY_X11_four_1_L1 NF p1 (n1 + 1) l2_1 v1 f1 w1 g1 = (v1, f1, w1, g1) := by
  simp only [gsY_X11_four_1_L1, if_pos h0]
theorem gsY_X11_four_1_q1 {NF : Nat} {p1 : Int32} {n1 : Nat} {l2_1 : Int32} {v1 : Nat → Int32} {f1 : Nat → Nat → Int32} {w1 : Int64} {g1 : Nat → Int64} {t3 : Int32} {t4 : Int32} {f5 : Nat → Nat → Int32} {t6 : Int32} {t8 : Int32} (h0 : ¬ (l2_1 < 0)) (h1 : t3 = p1 >>> (l2_1 &&& 31)) (h2 : t4 = t3 &&& 255) (h3 : f5 = upd2 f1 0 (upd (f1 0) (v1 0).toNatClampNeg t4)) (h4 : t6 = (v1 0) + 1) (h5 : t8 = l2_1 + (-8)) : gsY_X11_four_1_L1 NF p1 (n1 + 1) l2_1 v1 f1 w1 g1 = gsY_X11_four_1_L1 NF p1 n1 t8 (upd v1 0 t6) f5 w1 g1 := by
  subst h1 h2 h3 h4 h5
  simp only [gsY_X11_four_1_L1, if_neg h0]
def gsY_X11_feed_1 (NF : Nat) (p1 : Int32) (p2 : Int32) (p3 : Int32) (p4 : Int32) (p5 : Int32) (v : Nat → Int32) (f : Nat → Nat → Int32) (w : Int64) (g : Nat → Int64) : Int32 × (Nat → Int32) × (Nat → Nat → Int32) × (Int64) × (Nat → Int64) :=
  let t1 : Int32 := (v 0) + 20
  if t1 ≤ 1600 then
    match gsY_X11_four_1 NF p1 v f w g with
    | (v5, f6, w7, g8) =>
      match gsY_X11_four_1 NF p2 v5 f6 w7 g8 with
      | (v11, f12, w13, g14) =>
        match gsY_X11_four_1 NF p3 v11 f12 w13 g14 with
        | (v17, f18, w19, g20) =>
          match gsY_X11_four_1 NF p4 v17 f18 w19 g20 with
          | (v23, f24, w25, g26) =>
            match gsY_X11_four_1 NF p5 v23 f24 w25 g26 with
            | (v29, f30, w31, g32) =>
              ((v29 0), v29, f30, w31, g32)
  else
    ((-1), v, f, w, g)
theorem gsY_X11_feed_1_q0 {NF : Nat} {p1 : Int32} {p2 : Int32} {p3 : Int32} {p4 : Int32} {p5 : Int32} {v : Nat → Int32} {f : Nat → Nat → Int32} {w : Int64} {g : Nat → Int64} {t1 : Int32} {v5 : Nat → Int32} {f6 : Nat → Nat → Int32} {w7 : Int64} {g8 : Nat → Int64} {v11 : Nat → Int32} {f12 : Nat → Nat → Int32} {w13 : Int64} {g14 : Nat → Int64} {v17 : Nat → Int32} {f18 : Nat → Nat → Int32} {w19 : Int64} {g20 : Nat → Int64} {v23 : Nat → Int32} {f24 : Nat → Nat → Int32} {w25 : Int64} {g26 : Nat → Int64} {v29 : Nat → Int32} {f30 : Nat → Nat → Int32} {w31 : Int64} {g32 : Nat → Int64} (h0 : t1 = (v 0) + 20) (h1 : (t1 ≤ 1600)) (h2 : gsY_X11_four_1 NF p1 v f w g = (v5, f6, w7, g8)) (h3 : gsY_X11_four_1 NF p2 v5 f6 w7 g8 = (v11, f12, w13, g14)) (h4 : gsY_X11_four_1 NF p3 v11 f12 w13 g14 = (v17, f18, w19, g20)) (h5 : gsY_X11_four_1 NF p4 v17 f18 w19 g20 = (v23, f24, w25, g26)) (h6 : gsY_X11_four_1 NF p5 v23 f24 w25 g26 = (v29, f30, w31, g32)) : gsY_X11_feed_1 NF p1 p2 p3 p4 p5 v f w g = ((v29 0), v29, f30, w31, g32) := by
  subst h0
  simp only [gsY_X11_feed_1, if_pos h1, h2, h3, h4, h5, h6]
theorem gsY_X11_feed_1_q1 {NF : Nat} {p1 : Int32} {p2 : Int32} {p3 : Int32} {p4 : Int32} {p5 : Int32} {v : Nat → Int32} {f : Nat → Nat → Int32} {w : Int64} {g : Nat → Int64} {t1 : Int32} (h0 : t1 = (v 0) + 20) (h1 : ¬ (t1 ≤ 1600)) : gsY_X11_feed_1 NF p1 p2 p3 p4 p5 v f w g = ((-1), v, f, w, g) := by
  subst h0
  simp only [gsY_X11_feed_1, if_neg h1]
def gsY_X11_end_1 (NF : Nat) (p1 : Int32) (v : Nat → Int32) (f : Nat → Nat → Int32) (w : Int64) (g : Nat → Int64) : Int32 × (Nat → Int32) × (Nat → Nat → Int32) × (Int64) × (Nat → Int64) :=
  if p1 < 0 then
    ((-1), v, f, w, g)
  else
    if p1 ≤ (v 0) then
      (p1, (upd v 0 p1), f, w, g)
    else
      ((-1), v, f, w, g)
theorem gsY_X11_end_1_q0 {NF : Nat} {p1 : Int32} {v : Nat → Int32} {f : Nat → Nat → Int32} {w : Int64} {g : Nat → Int64} (h0 : (p1 < 0)) : gsY_X11_end_1 NF p1 v f w g = ((-1), v, f, w, g) := by
  simp only [gsY_X11_end_1, if_pos h0]
theorem gsY_X11_end_1_q1 {NF : Nat} {p1 : Int32} {v : Nat → Int32} {f : Nat → Nat → Int32} {w : Int64} {g : Nat → Int64} (h0 : ¬ (p1 < 0)) (h1 : (p1 ≤ (v 0))) : gsY_X11_end_1 NF p1 v f w g = (p1, (upd v 0 p1), f, w, g) := by
  simp only [gsY_X11_end_1, if_neg h0, if_pos h1]
theorem gsY_X11_end_1_q2 {NF : Nat} {p1 : Int32} {v : Nat → Int32} {f : Nat → Nat → Int32} {w : Int64} {g : Nat → Int64} (h0 : ¬ (p1 < 0)) (h1 : ¬ (p1 ≤ (v 0))) : gsY_X11_end_1 NF p1 v f w g = ((-1), v, f, w, g) := by
  simp only [gsY_X11_end_1, if_neg h0, if_neg h1]
