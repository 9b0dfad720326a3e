def gsX_X6_expression_18 (NF : Nat) (v : Nat → Int32) (f : Nat → Nat → Int32) : Int32 × (Nat → Int32) × (Nat → Nat → Int32) :=
  match gsX_X6_unit_3 NF v f with
  | (r1, v3, f4) =>
    if r1 = 1 then
      (1, v3, f4)
    else
      (0, v3, f4)
theorem gsX_X6_expression_18_q0 {NF : Nat} {v : Nat → Int32} {f : Nat → Nat → Int32} {v3 : Nat → Int32} {f4 : Nat → Nat → Int32} (h0 : gsX_X6_unit_3 NF v f = (1, v3, f4)) : gsX_X6_expression_18 NF v f = (1, v3, f4) := by
  simp only [gsX_X6_expression_18, h0, ite11, ite01, if_true, if_false]
theorem gsX_X6_expression_18_q1 {NF : Nat} {v : Nat → Int32} {f : Nat → Nat → Int32} {v3 : Nat → Int32} {f4 : Nat → Nat → Int32} (h0 : gsX_X6_unit_3 NF v f = (0, v3, f4)) : gsX_X6_expression_18 NF v f = (0, v3, f4) := by
  simp only [gsX_X6_expression_18, h0, ite11, ite01, if_true, if_false]
def gsX_X6_expression_17_L6 (NF : Nat) : Nat → (Int32) → (Nat → Int32) → (Nat → Nat → Int32) → Int32 × (Nat → Int32) × (Nat → Nat → Int32)
  | 0, _, _, _ => (0, (fun _ => 0), (fun _ _ => 0))
  | n6 + 1, l4_6, v6, f6 =>
    if 1600 ≤ l4_6 then
      (1, v6, f6)
    else
      if gsX_X6_joins_1 NF 4 (v6 2) v6 f6 = 1 then
        match gsX_X9_advance_1 NF v6 f6 with
        | (v12, f13) =>
          match gsX_X6_expression_18 NF v12 f13 with
          | (r14, v16, f17) =>
            if r14 = 1 then
              match gsX_X4_add_1 NF (v6 2) 0 v16 f17 with
              | (v20, f21) =>
                let t22 : Int32 := l4_6 + 1
                gsX_X6_expression_17_L6 NF n6 t22 v20 f21
            else
              (0, v16, f17)
      else
        (1, v6, f6)
def gsX_X6_expression_17 (NF : Nat) (v : Nat → Int32) (f : Nat → Nat → Int32) : Int32 × (Nat → Int32) × (Nat → Nat → Int32) :=
  match gsX_X6_expression_18 NF v f with
  | (r1, v3, f4) =>
    if r1 = 1 then
      gsX_X6_expression_17_L6 NF (4294967296 + NF) 0 v3 f4
    else
      (0, v3, f4)
theorem gsX_X6_expression_17_q4 {NF : Nat} {v : Nat → Int32} {f : Nat → Nat → Int32} {v3 : Nat → Int32} {f4 : Nat → Nat → Int32} (h0 : gsX_X6_expression_18 NF v f = (1, v3, f4)) : gsX_X6_expression_17 NF v f = gsX_X6_expression_17_L6 NF (4294967296 + NF) 0 v3 f4 := by
  simp only [gsX_X6_expression_17, h0, ite11, ite01, if_true, if_false]
theorem gsX_X6_expression_17_q5 {NF : Nat} {v : Nat → Int32} {f : Nat → Nat → Int32} {v3 : Nat → Int32} {f4 : Nat → Nat → Int32} (h0 : gsX_X6_expression_18 NF v f = (0, v3, f4)) : gsX_X6_expression_17 NF v f = (0, v3, f4) := by
  simp only [gsX_X6_expression_17, h0, ite11, ite01, if_true, if_false]
theorem gsX_X6_expression_17_q0 {NF : Nat} {n6 : Nat} {l4_6 : Int32} {v6 : Nat → Int32} {f6 : Nat → Nat → Int32} (h0 : (1600 ≤ l4_6)) : gsX_X6_expression_17_L6 NF (n6 + 1) l4_6 v6 f6 = (1, v6, f6) := by
  simp only [gsX_X6_expression_17_L6, if_pos h0]
theorem gsX_X6_expression_17_q1 {NF : Nat} {n6 : Nat} {l4_6 : Int32} {v6 : Nat → Int32} {f6 : Nat → Nat → Int32} {v12 : Nat → Int32} {f13 : Nat → Nat → Int32} {v16 : Nat → Int32} {f17 : Nat → Nat → Int32} {v20 : Nat → Int32} {f21 : Nat → Nat → Int32} {t22 : Int32} (h0 : ¬ (1600 ≤ l4_6)) (h1 : gsX_X6_joins_1 NF 4 (v6 2) v6 f6 = 1) (h2 : gsX_X9_advance_1 NF v6 f6 = (v12, f13)) (h3 : gsX_X6_expression_18 NF v12 f13 = (1, v16, f17)) (h5 : gsX_X4_add_1 NF (v6 2) 0 v16 f17 = (v20, f21)) (h6 : t22 = l4_6 + 1) : gsX_X6_expression_17_L6 NF (n6 + 1) l4_6 v6 f6 = gsX_X6_expression_17_L6 NF n6 t22 v20 f21 := by
  subst h6
  simp only [gsX_X6_expression_17_L6, if_neg h0, h1, h2, h3, h5, ite11, ite01, if_true, if_false]
theorem gsX_X6_expression_17_q2 {NF : Nat} {n6 : Nat} {l4_6 : Int32} {v6 : Nat → Int32} {f6 : Nat → Nat → Int32} {v12 : Nat → Int32} {f13 : Nat → Nat → Int32} {v16 : Nat → Int32} {f17 : Nat → Nat → Int32} (h0 : ¬ (1600 ≤ l4_6)) (h1 : gsX_X6_joins_1 NF 4 (v6 2) v6 f6 = 1) (h2 : gsX_X9_advance_1 NF v6 f6 = (v12, f13)) (h3 : gsX_X6_expression_18 NF v12 f13 = (0, v16, f17)) : gsX_X6_expression_17_L6 NF (n6 + 1) l4_6 v6 f6 = (0, v16, f17) := by
  simp only [gsX_X6_expression_17_L6, if_neg h0, h1, h2, h3, ite11, ite01, if_true, if_false]
theorem gsX_X6_expression_17_q3 {NF : Nat} {n6 : Nat} {l4_6 : Int32} {v6 : Nat → Int32} {f6 : Nat → Nat → Int32} (h0 : ¬ (1600 ≤ l4_6)) (h1 : gsX_X6_joins_1 NF 4 (v6 2) v6 f6 = 0) : gsX_X6_expression_17_L6 NF (n6 + 1) l4_6 v6 f6 = (1, v6, f6) := by
  simp only [gsX_X6_expression_17_L6, if_neg h0, h1, ite11, ite01, if_true, if_false]
def gsX_X6_expression_16_L6 (NF : Nat) : Nat → (Int32) → (Nat → Int32) → (Nat → Nat → Int32) → Int32 × (Nat → Int32) × (Nat → Nat → Int32)
  | 0, _, _, _ => (0, (fun _ => 0), (fun _ _ => 0))
  | n6 + 1, l4_6, v6, f6 =>
    if 1600 ≤ l4_6 then
      (1, v6, f6)
    else
      if gsX_X6_joins_1 NF 3 (v6 2) v6 f6 = 1 then
        match gsX_X9_advance_1 NF v6 f6 with
        | (v12, f13) =>
          match gsX_X6_expression_17 NF v12 f13 with
          | (r14, v16, f17) =>
            if r14 = 1 then
              match gsX_X4_add_1 NF (v6 2) 0 v16 f17 with
              | (v20, f21) =>
                let t22 : Int32 := l4_6 + 1
                gsX_X6_expression_16_L6 NF n6 t22 v20 f21
            else
              (0, v16, f17)
      else
        (1, v6, f6)
def gsX_X6_expression_16 (NF : Nat) (v : Nat → Int32) (f : Nat → Nat → Int32) : Int32 × (Nat → Int32) × (Nat → Nat → Int32) :=
  match gsX_X6_expression_17 NF v f with
  | (r1, v3, f4) =>
    if r1 = 1 then
      gsX_X6_expression_16_L6 NF (4294967296 + NF) 0 v3 f4
    else
      (0, v3, f4)
theorem gsX_X6_expression_16_q4 {NF : Nat} {v : Nat → Int32} {f : Nat → Nat → Int32} {v3 : Nat → Int32} {f4 : Nat → Nat → Int32} (h0 : gsX_X6_expression_17 NF v f = (1, v3, f4)) : gsX_X6_expression_16 NF v f = gsX_X6_expression_16_L6 NF (4294967296 + NF) 0 v3 f4 := by
  simp only [gsX_X6_expression_16, h0, ite11, ite01, if_true, if_false]
theorem gsX_X6_expression_16_q5 {NF : Nat} {v : Nat → Int32} {f : Nat → Nat → Int32} {v3 : Nat → Int32} {f4 : Nat → Nat → Int32} (h0 : gsX_X6_expression_17 NF v f = (0, v3, f4)) : gsX_X6_expression_16 NF v f = (0, v3, f4) := by
  simp only [gsX_X6_expression_16, h0, ite11, ite01, if_true, if_false]
theorem gsX_X6_expression_16_q0 {NF : Nat} {n6 : Nat} {l4_6 : Int32} {v6 : Nat → Int32} {f6 : Nat → Nat → Int32} (h0 : (1600 ≤ l4_6)) : gsX_X6_expression_16_L6 NF (n6 + 1) l4_6 v6 f6 = (1, v6, f6) := by
  simp only [gsX_X6_expression_16_L6, if_pos h0]
theorem gsX_X6_expression_16_q1 {NF : Nat} {n6 : Nat} {l4_6 : Int32} {v6 : Nat → Int32} {f6 : Nat → Nat → Int32} {v12 : Nat → Int32} {f13 : Nat → Nat → Int32} {v16 : Nat → Int32} {f17 : Nat → Nat → Int32} {v20 : Nat → Int32} {f21 : Nat → Nat → Int32} {t22 : Int32} (h0 : ¬ (1600 ≤ l4_6)) (h1 : gsX_X6_joins_1 NF 3 (v6 2) v6 f6 = 1) (h2 : gsX_X9_advance_1 NF v6 f6 = (v12, f13)) (h3 : gsX_X6_expression_17 NF v12 f13 = (1, v16, f17)) (h5 : gsX_X4_add_1 NF (v6 2) 0 v16 f17 = (v20, f21)) (h6 : t22 = l4_6 + 1) : gsX_X6_expression_16_L6 NF (n6 + 1) l4_6 v6 f6 = gsX_X6_expression_16_L6 NF n6 t22 v20 f21 := by
  subst h6
  simp only [gsX_X6_expression_16_L6, if_neg h0, h1, h2, h3, h5, ite11, ite01, if_true, if_false]
theorem gsX_X6_expression_16_q2 {NF : Nat} {n6 : Nat} {l4_6 : Int32} {v6 : Nat → Int32} {f6 : Nat → Nat → Int32} {v12 : Nat → Int32} {f13 : Nat → Nat → Int32} {v16 : Nat → Int32} {f17 : Nat → Nat → Int32} (h0 : ¬ (1600 ≤ l4_6)) (h1 : gsX_X6_joins_1 NF 3 (v6 2) v6 f6 = 1) (h2 : gsX_X9_advance_1 NF v6 f6 = (v12, f13)) (h3 : gsX_X6_expression_17 NF v12 f13 = (0, v16, f17)) : gsX_X6_expression_16_L6 NF (n6 + 1) l4_6 v6 f6 = (0, v16, f17) := by
  simp only [gsX_X6_expression_16_L6, if_neg h0, h1, h2, h3, ite11, ite01, if_true, if_false]
theorem gsX_X6_expression_16_q3 {NF : Nat} {n6 : Nat} {l4_6 : Int32} {v6 : Nat → Int32} {f6 : Nat → Nat → Int32} (h0 : ¬ (1600 ≤ l4_6)) (h1 : gsX_X6_joins_1 NF 3 (v6 2) v6 f6 = 0) : gsX_X6_expression_16_L6 NF (n6 + 1) l4_6 v6 f6 = (1, v6, f6) := by
  simp only [gsX_X6_expression_16_L6, if_neg h0, h1, ite11, ite01, if_true, if_false]
def gsX_X6_negation_6 (NF : Nat) (v : Nat → Int32) (f : Nat → Nat → Int32) : Int32 × (Nat → Int32) × (Nat → Nat → Int32) :=
  match gsX_X9_advance_1 NF v f with
  | (v2, f3) =>
    match stk NF (gsX_X6_expression_21 NF v2 f3) with
    | (r4, v6, f7) =>
      if r4 = 1 then
        match gsX_X4_add_1 NF 115 0 v6 f7 with
        | (v10, f11) =>
          (1, v10, f11)
      else
        (0, v6, f7)
theorem gsX_X6_negation_6_q0 {NF : Nat} {v : Nat → Int32} {f : Nat → Nat → Int32} {v2 : Nat → Int32} {f3 : Nat → Nat → Int32} {v6 : Nat → Int32} {f7 : Nat → Nat → Int32} {v10 : Nat → Int32} {f11 : Nat → Nat → Int32} (h0 : gsX_X9_advance_1 NF v f = (v2, f3)) (h1 : gsX_X6_expression_21 NF v2 f3 = (1, v6, f7)) (h3 : gsX_X4_add_1 NF 115 0 v6 f7 = (v10, f11)) : gsX_X6_negation_6 NF v f = (1, v10, f11) := by
  simp only [gsX_X6_negation_6, stk_eq, h0, h1, h3, ite11, ite01, if_true, if_false]
theorem gsX_X6_negation_6_q1 {NF : Nat} {v : Nat → Int32} {f : Nat → Nat → Int32} {v2 : Nat → Int32} {f3 : Nat → Nat → Int32} {v6 : Nat → Int32} {f7 : Nat → Nat → Int32} (h0 : gsX_X9_advance_1 NF v f = (v2, f3)) (h1 : gsX_X6_expression_21 NF v2 f3 = (0, v6, f7)) : gsX_X6_negation_6 NF v f = (0, v6, f7) := by
  simp only [gsX_X6_negation_6, stk_eq, h0, h1, ite11, ite01, if_true, if_false]
def gsX_X6_expression_15_L7 (NF : Nat) : Nat → (Int32) → (Nat → Int32) → (Nat → Nat → Int32) → Int32 × (Nat → Int32) × (Nat → Nat → Int32)
  | 0, _, _, _ => (0, (fun _ => 0), (fun _ _ => 0))
  | n7 + 1, l4_7, v7, f7 =>
    if 1 ≤ l4_7 then
      (1, v7, f7)
    else
      if gsX_X6_joins_1 NF 2 (v7 2) v7 f7 = 1 then
        match gsX_X9_advance_1 NF v7 f7 with
        | (v13, f14) =>
          match gsX_X6_expression_16 NF v13 f14 with
          | (r15, v17, f18) =>
            if r15 = 1 then
              match gsX_X4_add_1 NF (v7 2) 0 v17 f18 with
              | (v21, f22) =>
                let t23 : Int32 := l4_7 + 1
                gsX_X6_expression_15_L7 NF n7 t23 v21 f22
            else
              (0, v17, f18)
      else
        (1, v7, f7)
def gsX_X6_expression_15 (NF : Nat) (v : Nat → Int32) (f : Nat → Nat → Int32) : Int32 × (Nat → Int32) × (Nat → Nat → Int32) :=
  if (v 2) = 115 then
    match gsX_X6_negation_6 NF v f with
    | (r26, v28, f29) =>
      if r26 = 1 then
        (1, v28, f29)
      else
        (0, v28, f29)
  else
    match gsX_X6_expression_16 NF v f with
    | (r2, v4, f5) =>
      if r2 = 1 then
        gsX_X6_expression_15_L7 NF (4294967296 + NF) 0 v4 f5
      else
        (0, v4, f5)
theorem gsX_X6_expression_15_q4 {NF : Nat} {v : Nat → Int32} {f : Nat → Nat → Int32} {v4 : Nat → Int32} {f5 : Nat → Nat → Int32} (h0 : ¬ ((v 2) = 115)) (h1 : gsX_X6_expression_16 NF v f = (1, v4, f5)) : gsX_X6_expression_15 NF v f = gsX_X6_expression_15_L7 NF (4294967296 + NF) 0 v4 f5 := by
  simp only [gsX_X6_expression_15, if_neg h0, h1, ite11, ite01, if_true, if_false]
theorem gsX_X6_expression_15_q5 {NF : Nat} {v : Nat → Int32} {f : Nat → Nat → Int32} {v4 : Nat → Int32} {f5 : Nat → Nat → Int32} (h0 : ¬ ((v 2) = 115)) (h1 : gsX_X6_expression_16 NF v f = (0, v4, f5)) : gsX_X6_expression_15 NF v f = (0, v4, f5) := by
  simp only [gsX_X6_expression_15, if_neg h0, h1, ite11, ite01, if_true, if_false]
theorem gsX_X6_expression_15_q6 {NF : Nat} {v : Nat → Int32} {f : Nat → Nat → Int32} {v28 : Nat → Int32} {f29 : Nat → Nat → Int32} (h0 : ((v 2) = 115)) (h1 : gsX_X6_negation_6 NF v f = (1, v28, f29)) : gsX_X6_expression_15 NF v f = (1, v28, f29) := by
  simp only [gsX_X6_expression_15, if_pos h0, h1, ite11, ite01, if_true, if_false]
theorem gsX_X6_expression_15_q7 {NF : Nat} {v : Nat → Int32} {f : Nat → Nat → Int32} {v28 : Nat → Int32} {f29 : Nat → Nat → Int32} (h0 : ((v 2) = 115)) (h1 : gsX_X6_negation_6 NF v f = (0, v28, f29)) : gsX_X6_expression_15 NF v f = (0, v28, f29) := by
  simp only [gsX_X6_expression_15, if_pos h0, h1, ite11, ite01, if_true, if_false]
theorem gsX_X6_expression_15_q0 {NF : Nat} {n7 : Nat} {l4_7 : Int32} {v7 : Nat → Int32} {f7 : Nat → Nat → Int32} (h0 : (1 ≤ l4_7)) : gsX_X6_expression_15_L7 NF (n7 + 1) l4_7 v7 f7 = (1, v7, f7) := by
  simp only [gsX_X6_expression_15_L7, if_pos h0]
theorem gsX_X6_expression_15_q1 {NF : Nat} {n7 : Nat} {l4_7 : Int32} {v7 : Nat → Int32} {f7 : Nat → Nat → Int32} {v13 : Nat → Int32} {f14 : Nat → Nat → Int32} {v17 : Nat → Int32} {f18 : Nat → Nat → Int32} {v21 : Nat → Int32} {f22 : Nat → Nat → Int32} {t23 : Int32} (h0 : ¬ (1 ≤ l4_7)) (h1 : gsX_X6_joins_1 NF 2 (v7 2) v7 f7 = 1) (h2 : gsX_X9_advance_1 NF v7 f7 = (v13, f14)) (h3 : gsX_X6_expression_16 NF v13 f14 = (1, v17, f18)) (h5 : gsX_X4_add_1 NF (v7 2) 0 v17 f18 = (v21, f22)) (h6 : t23 = l4_7 + 1) : gsX_X6_expression_15_L7 NF (n7 + 1) l4_7 v7 f7 = gsX_X6_expression_15_L7 NF n7 t23 v21 f22 := by
  subst h6
  simp only [gsX_X6_expression_15_L7, if_neg h0, h1, h2, h3, h5, ite11, ite01, if_true, if_false]
theorem gsX_X6_expression_15_q2 {NF : Nat} {n7 : Nat} {l4_7 : Int32} {v7 : Nat → Int32} {f7 : Nat → Nat → Int32} {v13 : Nat → Int32} {f14 : Nat → Nat → Int32} {v17 : Nat → Int32} {f18 : Nat → Nat → Int32} (h0 : ¬ (1 ≤ l4_7)) (h1 : gsX_X6_joins_1 NF 2 (v7 2) v7 f7 = 1) (h2 : gsX_X9_advance_1 NF v7 f7 = (v13, f14)) (h3 : gsX_X6_expression_16 NF v13 f14 = (0, v17, f18)) : gsX_X6_expression_15_L7 NF (n7 + 1) l4_7 v7 f7 = (0, v17, f18) := by
  simp only [gsX_X6_expression_15_L7, if_neg h0, h1, h2, h3, ite11, ite01, if_true, if_false]
theorem gsX_X6_expression_15_q3 {NF : Nat} {n7 : Nat} {l4_7 : Int32} {v7 : Nat → Int32} {f7 : Nat → Nat → Int32} (h0 : ¬ (1 ≤ l4_7)) (h1 : gsX_X6_joins_1 NF 2 (v7 2) v7 f7 = 0) : gsX_X6_expression_15_L7 NF (n7 + 1) l4_7 v7 f7 = (1, v7, f7) := by
  simp only [gsX_X6_expression_15_L7, if_neg h0, h1, ite11, ite01, if_true, if_false]
def gsX_X6_expression_14_L6 (NF : Nat) : Nat → (Int32) → (Nat → Int32) → (Nat → Nat → Int32) → Int32 × (Nat → Int32) × (Nat → Nat → Int32)
  | 0, _, _, _ => (0, (fun _ => 0), (fun _ _ => 0))
  | n6 + 1, l4_6, v6, f6 =>
    if 1600 ≤ l4_6 then
      (1, v6, f6)
    else
      if gsX_X6_joins_1 NF 1 (v6 2) v6 f6 = 1 then
        match gsX_X9_advance_1 NF v6 f6 with
        | (v12, f13) =>
          match gsX_X6_expression_15 NF v12 f13 with
          | (r14, v16, f17) =>
            if r14 = 1 then
              match gsX_X4_add_1 NF (v6 2) 0 v16 f17 with
              | (v20, f21) =>
                let t22 : Int32 := l4_6 + 1
                gsX_X6_expression_14_L6 NF n6 t22 v20 f21
            else
              (0, v16, f17)
      else
        (1, v6, f6)
def gsX_X6_expression_14 (NF : Nat) (v : Nat → Int32) (f : Nat → Nat → Int32) : Int32 × (Nat → Int32) × (Nat → Nat → Int32) :=
  match gsX_X6_expression_15 NF v f with
  | (r1, v3, f4) =>
    if r1 = 1 then
      gsX_X6_expression_14_L6 NF (4294967296 + NF) 0 v3 f4
    else
      (0, v3, f4)
theorem gsX_X6_expression_14_q4 {NF : Nat} {v : Nat → Int32} {f : Nat → Nat → Int32} {v3 : Nat → Int32} {f4 : Nat → Nat → Int32} (h0 : gsX_X6_expression_15 NF v f = (1, v3, f4)) : gsX_X6_expression_14 NF v f = gsX_X6_expression_14_L6 NF (4294967296 + NF) 0 v3 f4 := by
  simp only [gsX_X6_expression_14, h0, ite11, ite01, if_true, if_false]
theorem gsX_X6_expression_14_q5 {NF : Nat} {v : Nat → Int32} {f : Nat → Nat → Int32} {v3 : Nat → Int32} {f4 : Nat → Nat → Int32} (h0 : gsX_X6_expression_15 NF v f = (0, v3, f4)) : gsX_X6_expression_14 NF v f = (0, v3, f4) := by
  simp only [gsX_X6_expression_14, h0, ite11, ite01, if_true, if_false]
theorem gsX_X6_expression_14_q0 {NF : Nat} {n6 : Nat} {l4_6 : Int32} {v6 : Nat → Int32} {f6 : Nat → Nat → Int32} (h0 : (1600 ≤ l4_6)) : gsX_X6_expression_14_L6 NF (n6 + 1) l4_6 v6 f6 = (1, v6, f6) := by
  simp only [gsX_X6_expression_14_L6, if_pos h0]
theorem gsX_X6_expression_14_q1 {NF : Nat} {n6 : Nat} {l4_6 : Int32} {v6 : Nat → Int32} {f6 : Nat → Nat → Int32} {v12 : Nat → Int32} {f13 : Nat → Nat → Int32} {v16 : Nat → Int32} {f17 : Nat → Nat → Int32} {v20 : Nat → Int32} {f21 : Nat → Nat → Int32} {t22 : Int32} (h0 : ¬ (1600 ≤ l4_6)) (h1 : gsX_X6_joins_1 NF 1 (v6 2) v6 f6 = 1) (h2 : gsX_X9_advance_1 NF v6 f6 = (v12, f13)) (h3 : gsX_X6_expression_15 NF v12 f13 = (1, v16, f17)) (h5 : gsX_X4_add_1 NF (v6 2) 0 v16 f17 = (v20, f21)) (h6 : t22 = l4_6 + 1) : gsX_X6_expression_14_L6 NF (n6 + 1) l4_6 v6 f6 = gsX_X6_expression_14_L6 NF n6 t22 v20 f21 := by
  subst h6
  simp only [gsX_X6_expression_14_L6, if_neg h0, h1, h2, h3, h5, ite11, ite01, if_true, if_false]
theorem gsX_X6_expression_14_q2 {NF : Nat} {n6 : Nat} {l4_6 : Int32} {v6 : Nat → Int32} {f6 : Nat → Nat → Int32} {v12 : Nat → Int32} {f13 : Nat → Nat → Int32} {v16 : Nat → Int32} {f17 : Nat → Nat → Int32} (h0 : ¬ (1600 ≤ l4_6)) (h1 : gsX_X6_joins_1 NF 1 (v6 2) v6 f6 = 1) (h2 : gsX_X9_advance_1 NF v6 f6 = (v12, f13)) (h3 : gsX_X6_expression_15 NF v12 f13 = (0, v16, f17)) : gsX_X6_expression_14_L6 NF (n6 + 1) l4_6 v6 f6 = (0, v16, f17) := by
  simp only [gsX_X6_expression_14_L6, if_neg h0, h1, h2, h3, ite11, ite01, if_true, if_false]
theorem gsX_X6_expression_14_q3 {NF : Nat} {n6 : Nat} {l4_6 : Int32} {v6 : Nat → Int32} {f6 : Nat → Nat → Int32} (h0 : ¬ (1600 ≤ l4_6)) (h1 : gsX_X6_joins_1 NF 1 (v6 2) v6 f6 = 0) : gsX_X6_expression_14_L6 NF (n6 + 1) l4_6 v6 f6 = (1, v6, f6) := by
  simp only [gsX_X6_expression_14_L6, if_neg h0, h1, ite11, ite01, if_true, if_false]
def gsX_X6_expression_13_L6 (NF : Nat) : Nat → (Int32) → (Nat → Int32) → (Nat → Nat → Int32) → Int32 × (Nat → Int32) × (Nat → Nat → Int32)
  | 0, _, _, _ => (0, (fun _ => 0), (fun _ _ => 0))
  | n6 + 1, l4_6, v6, f6 =>
    if 1600 ≤ l4_6 then
      (1, v6, f6)
    else
      if gsX_X6_joins_1 NF 0 (v6 2) v6 f6 = 1 then
        match gsX_X9_advance_1 NF v6 f6 with
        | (v12, f13) =>
          match gsX_X6_expression_14 NF v12 f13 with
          | (r14, v16, f17) =>
            if r14 = 1 then
              match gsX_X4_add_1 NF (v6 2) 0 v16 f17 with
              | (v20, f21) =>
                let t22 : Int32 := l4_6 + 1
                gsX_X6_expression_13_L6 NF n6 t22 v20 f21
            else
              (0, v16, f17)
      else
        (1, v6, f6)
def gsX_X6_expression_13 (NF : Nat) (v : Nat → Int32) (f : Nat → Nat → Int32) : Int32 × (Nat → Int32) × (Nat → Nat → Int32) :=
  match gsX_X6_expression_14 NF v f with
  | (r1, v3, f4) =>
    if r1 = 1 then
      gsX_X6_expression_13_L6 NF (4294967296 + NF) 0 v3 f4
    else
      (0, v3, f4)
theorem gsX_X6_expression_13_q4 {NF : Nat} {v : Nat → Int32} {f : Nat → Nat → Int32} {v3 : Nat → Int32} {f4 : Nat → Nat → Int32} (h0 : gsX_X6_expression_14 NF v f = (1, v3, f4)) : gsX_X6_expression_13 NF v f = gsX_X6_expression_13_L6 NF (4294967296 + NF) 0 v3 f4 := by
  simp only [gsX_X6_expression_13, h0, ite11, ite01, if_true, if_false]
theorem gsX_X6_expression_13_q5 {NF : Nat} {v : Nat → Int32} {f : Nat → Nat → Int32} {v3 : Nat → Int32} {f4 : Nat → Nat → Int32} (h0 : gsX_X6_expression_14 NF v f = (0, v3, f4)) : gsX_X6_expression_13 NF v f = (0, v3, f4) := by
  simp only [gsX_X6_expression_13, h0, ite11, ite01, if_true, if_false]
theorem gsX_X6_expression_13_q0 {NF : Nat} {n6 : Nat} {l4_6 : Int32} {v6 : Nat → Int32} {f6 : Nat → Nat → Int32} (h0 : (1600 ≤ l4_6)) : gsX_X6_expression_13_L6 NF (n6 + 1) l4_6 v6 f6 = (1, v6, f6) := by
  simp only [gsX_X6_expression_13_L6, if_pos h0]
theorem gsX_X6_expression_13_q1 {NF : Nat} {n6 : Nat} {l4_6 : Int32} {v6 : Nat → Int32} {f6 : Nat → Nat → Int32} {v12 : Nat → Int32} {f13 : Nat → Nat → Int32} {v16 : Nat → Int32} {f17 : Nat → Nat → Int32} {v20 : Nat → Int32} {f21 : Nat → Nat → Int32} {t22 : Int32} (h0 : ¬ (1600 ≤ l4_6)) (h1 : gsX_X6_joins_1 NF 0 (v6 2) v6 f6 = 1) (h2 : gsX_X9_advance_1 NF v6 f6 = (v12, f13)) (h3 : gsX_X6_expression_14 NF v12 f13 = (1, v16, f17)) (h5 : gsX_X4_add_1 NF (v6 2) 0 v16 f17 = (v20, f21)) (h6 : t22 = l4_6 + 1) : gsX_X6_expression_13_L6 NF (n6 + 1) l4_6 v6 f6 = gsX_X6_expression_13_L6 NF n6 t22 v20 f21 := by
  subst h6
  simp only [gsX_X6_expression_13_L6, if_neg h0, h1, h2, h3, h5, ite11, ite01, if_true, if_false]
theorem gsX_X6_expression_13_q2 {NF : Nat} {n6 : Nat} {l4_6 : Int32} {v6 : Nat → Int32} {f6 : Nat → Nat → Int32} {v12 : Nat → Int32} {f13 : Nat → Nat → Int32} {v16 : Nat → Int32} {f17 : Nat → Nat → Int32} (h0 : ¬ (1600 ≤ l4_6)) (h1 : gsX_X6_joins_1 NF 0 (v6 2) v6 f6 = 1) (h2 : gsX_X9_advance_1 NF v6 f6 = (v12, f13)) (h3 : gsX_X6_expression_14 NF v12 f13 = (0, v16, f17)) : gsX_X6_expression_13_L6 NF (n6 + 1) l4_6 v6 f6 = (0, v16, f17) := by
  simp only [gsX_X6_expression_13_L6, if_neg h0, h1, h2, h3, ite11, ite01, if_true, if_false]
theorem gsX_X6_expression_13_q3 {NF : Nat} {n6 : Nat} {l4_6 : Int32} {v6 : Nat → Int32} {f6 : Nat → Nat → Int32} (h0 : ¬ (1600 ≤ l4_6)) (h1 : gsX_X6_joins_1 NF 0 (v6 2) v6 f6 = 0) : gsX_X6_expression_13_L6 NF (n6 + 1) l4_6 v6 f6 = (1, v6, f6) := by
  simp only [gsX_X6_expression_13_L6, if_neg h0, h1, ite11, ite01, if_true, if_false]
def gsX_X6_unit_2 (NF : Nat) (v : Nat → Int32) (f : Nat → Nat → Int32) : Int32 × (Nat → Int32) × (Nat → Nat → Int32) :=
  if (v 2) = 2 then
    if (v 17) < 30 then
      match gsX_X4_add_1 NF (v 2) (v 5) v f with
      | (v4, f5) =>
        let t6 : Int32 := (v4 17) + 1
        match gsX_X9_advance_1 NF (upd v4 17 t6) f5 with
        | (v8, f9) =>
          (1, v8, f9)
    else
      match gsX_X6_refuse_1 NF v f with
      | (r10, v12, f13) =>
        if r10 = 1 then
          (1, v12, f13)
        else
          (0, v12, f13)
  else
    if (v 2) < 116 then
      if (v 2) = 40 then
        if (v 17) < 30 then
          let t23 : Int32 := (v 17) + 1
          match gsX_X9_advance_1 NF (upd v 17 t23) f with
          | (v26, f27) =>
            match stk NF (gsX_X6_expression_13 NF v26 f27) with
            | (r28, v30, f31) =>
              if r28 = 1 then
                match gsX_X6_taken_1 NF 41 v30 f31 with
                | (r33, v35, f36) =>
                  if r33 = 1 then
                    (1, v35, f36)
                  else
                    (0, v35, f36)
              else
                (0, v30, f31)
        else
          match gsX_X6_refuse_1 NF v f with
          | (r38, v40, f41) =>
            if r38 = 1 then
              (1, v40, f41)
            else
              (0, v40, f41)
      else
        match gsX_X6_refuse_1 NF v f with
        | (r17, v19, f20) =>
          if r17 = 1 then
            (1, v19, f20)
          else
            (0, v19, f20)
    else
      if 121 < (v 2) then
        if (v 2) = 40 then
          if (v 17) < 30 then
            let t51 : Int32 := (v 17) + 1
            match gsX_X9_advance_1 NF (upd v 17 t51) f with
            | (v54, f55) =>
              match stk NF (gsX_X6_expression_13 NF v54 f55) with
              | (r56, v58, f59) =>
                if r56 = 1 then
                  match gsX_X6_taken_1 NF 41 v58 f59 with
                  | (r61, v63, f64) =>
                    if r61 = 1 then
                      (1, v63, f64)
                    else
                      (0, v63, f64)
                else
                  (0, v58, f59)
          else
            match gsX_X6_refuse_1 NF v f with
            | (r66, v68, f69) =>
              if r66 = 1 then
                (1, v68, f69)
              else
                (0, v68, f69)
        else
          match gsX_X6_refuse_1 NF v f with
          | (r45, v47, f48) =>
            if r45 = 1 then
              (1, v47, f48)
            else
              (0, v47, f48)
      else
        if (v 17) < 30 then
          match gsX_X4_add_1 NF (v 2) (v 5) v f with
          | (v73, f74) =>
            let t75 : Int32 := (v73 17) + 1
            match gsX_X9_advance_1 NF (upd v73 17 t75) f74 with
            | (v77, f78) =>
              (1, v77, f78)
        else
          match gsX_X6_refuse_1 NF v f with
          | (r79, v81, f82) =>
            if r79 = 1 then
              (1, v81, f82)
            else
              (0, v81, f82)
theorem gsX_X6_unit_2_q0 {NF : Nat} {v : Nat → Int32} {f : Nat → Nat → Int32} {v4 : Nat → Int32} {f5 : Nat → Nat → Int32} {t6 : Int32} {v8 : Nat → Int32} {f9 : Nat → Nat → Int32} (h0 : ((v 2) = 2)) (h1 : ((v 17) < 30)) (h2 : gsX_X4_add_1 NF (v 2) (v 5) v f = (v4, f5)) (h3 : t6 = (v4 17) + 1) (h4 : gsX_X9_advance_1 NF (upd v4 17 t6) f5 = (v8, f9)) : gsX_X6_unit_2 NF v f = (1, v8, f9) := by
  subst h3
  simp only [gsX_X6_unit_2, stk_eq, if_pos h0, if_pos h1, h2, h4]
theorem gsX_X6_unit_2_q1 {NF : Nat} {v : Nat → Int32} {f : Nat → Nat → Int32} {v12 : Nat → Int32} {f13 : Nat → Nat → Int32} (h0 : ((v 2) = 2)) (h1 : ¬ ((v 17) < 30)) (h2 : gsX_X6_refuse_1 NF v f = (1, v12, f13)) : gsX_X6_unit_2 NF v f = (1, v12, f13) := by
  simp only [gsX_X6_unit_2, stk_eq, if_pos h0, if_neg h1, h2, ite11, ite01, if_true, if_false]
theorem gsX_X6_unit_2_q2 {NF : Nat} {v : Nat → Int32} {f : Nat → Nat → Int32} {v12 : Nat → Int32} {f13 : Nat → Nat → Int32} (h0 : ((v 2) = 2)) (h1 : ¬ ((v 17) < 30)) (h2 : gsX_X6_refuse_1 NF v f = (0, v12, f13)) : gsX_X6_unit_2 NF v f = (0, v12, f13) := by
  simp only [gsX_X6_unit_2, stk_eq, if_pos h0, if_neg h1, h2, ite11, ite01, if_true, if_false]
theorem gsX_X6_unit_2_q3 {NF : Nat} {v : Nat → Int32} {f : Nat → Nat → Int32} {v19 : Nat → Int32} {f20 : Nat → Nat → Int32} (h0 : ¬ ((v 2) = 2)) (h1 : ((v 2) < 116)) (h2 : ¬ ((v 2) = 40)) (h3 : gsX_X6_refuse_1 NF v f = (1, v19, f20)) : gsX_X6_unit_2 NF v f = (1, v19, f20) := by
  simp only [gsX_X6_unit_2, stk_eq, if_neg h0, if_pos h1, if_neg h2, h3, ite11, ite01, if_true, if_false]
theorem gsX_X6_unit_2_q4 {NF : Nat} {v : Nat → Int32} {f : Nat → Nat → Int32} {v19 : Nat → Int32} {f20 : Nat → Nat → Int32} (h0 : ¬ ((v 2) = 2)) (h1 : ((v 2) < 116)) (h2 : ¬ ((v 2) = 40)) (h3 : gsX_X6_refuse_1 NF v f = (0, v19, f20)) : gsX_X6_unit_2 NF v f = (0, v19, f20) := by
  simp only [gsX_X6_unit_2, stk_eq, if_neg h0, if_pos h1, if_neg h2, h3, ite11, ite01, if_true, if_false]
theorem gsX_X6_unit_2_q5 {NF : Nat} {v : Nat → Int32} {f : Nat → Nat → Int32} {t23 : Int32} {v26 : Nat → Int32} {f27 : Nat → Nat → Int32} {v30 : Nat → Int32} {f31 : Nat → Nat → Int32} {v35 : Nat → Int32} {f36 : Nat → Nat → Int32} (h0 : ¬ ((v 2) = 2)) (h1 : ((v 2) < 116)) (h2 : ((v 2) = 40)) (h3 : ((v 17) < 30)) (h4 : t23 = (v 17) + 1) (h5 : gsX_X9_advance_1 NF (upd v 17 t23) f = (v26, f27)) (h6 : gsX_X6_expression_13 NF v26 f27 = (1, v30, f31)) (h8 : gsX_X6_taken_1 NF 41 v30 f31 = (1, v35, f36)) : gsX_X6_unit_2 NF v f = (1, v35, f36) := by
  subst h4
  simp only [gsX_X6_unit_2, stk_eq, if_neg h0, if_pos h1, if_pos h2, if_pos h3, h5, h6, h8, ite11, ite01, if_true, if_false]
theorem gsX_X6_unit_2_q6 {NF : Nat} {v : Nat → Int32} {f : Nat → Nat → Int32} {t23 : Int32} {v26 : Nat → Int32} {f27 : Nat → Nat → Int32} {v30 : Nat → Int32} {f31 : Nat → Nat → Int32} {v35 : Nat → Int32} {f36 : Nat → Nat → Int32} (h0 : ¬ ((v 2) = 2)) (h1 : ((v 2) < 116)) (h2 : ((v 2) = 40)) (h3 : ((v 17) < 30)) (h4 : t23 = (v 17) + 1) (h5 : gsX_X9_advance_1 NF (upd v 17 t23) f = (v26, f27)) (h6 : gsX_X6_expression_13 NF v26 f27 = (1, v30, f31)) (h8 : gsX_X6_taken_1 NF 41 v30 f31 = (0, v35, f36)) : gsX_X6_unit_2 NF v f = (0, v35, f36) := by
  subst h4
  simp only [gsX_X6_unit_2, stk_eq, if_neg h0, if_pos h1, if_pos h2, if_pos h3, h5, h6, h8, ite11, ite01, if_true, if_false]
theorem gsX_X6_unit_2_q7 {NF : Nat} {v : Nat → Int32} {f : Nat → Nat → Int32} {t23 : Int32} {v26 : Nat → Int32} {f27 : Nat → Nat → Int32} {v30 : Nat → Int32} {f31 : Nat → Nat → Int32} (h0 : ¬ ((v 2) = 2)) (h1 : ((v 2) < 116)) (h2 : ((v 2) = 40)) (h3 : ((v 17) < 30)) (h4 : t23 = (v 17) + 1) (h5 : gsX_X9_advance_1 NF (upd v 17 t23) f = (v26, f27)) (h6 : gsX_X6_expression_13 NF v26 f27 = (0, v30, f31)) : gsX_X6_unit_2 NF v f = (0, v30, f31) := by
  subst h4
  simp only [gsX_X6_unit_2, stk_eq, if_neg h0, if_pos h1, if_pos h2, if_pos h3, h5, h6, ite11, ite01, if_true, if_false]
theorem gsX_X6_unit_2_q8 {NF : Nat} {v : Nat → Int32} {f : Nat → Nat → Int32} {v40 : Nat → Int32} {f41 : Nat → Nat → Int32} (h0 : ¬ ((v 2) = 2)) (h1 : ((v 2) < 116)) (h2 : ((v 2) = 40)) (h3 : ¬ ((v 17) < 30)) (h4 : gsX_X6_refuse_1 NF v f = (1, v40, f41)) : gsX_X6_unit_2 NF v f = (1, v40, f41) := by
  simp only [gsX_X6_unit_2, stk_eq, if_neg h0, if_pos h1, if_pos h2, if_neg h3, h4, ite11, ite01, if_true, if_false]
theorem gsX_X6_unit_2_q9 {NF : Nat} {v : Nat → Int32} {f : Nat → Nat → Int32} {v40 : Nat → Int32} {f41 : Nat → Nat → Int32} (h0 : ¬ ((v 2) = 2)) (h1 : ((v 2) < 116)) (h2 : ((v 2) = 40)) (h3 : ¬ ((v 17) < 30)) (h4 : gsX_X6_refuse_1 NF v f = (0, v40, f41)) : gsX_X6_unit_2 NF v f = (0, v40, f41) := by
  simp only [gsX_X6_unit_2, stk_eq, if_neg h0, if_pos h1, if_pos h2, if_neg h3, h4, ite11, ite01, if_true, if_false]
theorem gsX_X6_unit_2_q10 {NF : Nat} {v : Nat → Int32} {f : Nat → Nat → Int32} {v47 : Nat → Int32} {f48 : Nat → Nat → Int32} (h0 : ¬ ((v 2) = 2)) (h1 : ¬ ((v 2) < 116)) (h2 : (121 < (v 2))) (h3 : ¬ ((v 2) = 40)) (h4 : gsX_X6_refuse_1 NF v f = (1, v47, f48)) : gsX_X6_unit_2 NF v f = (1, v47, f48) := by
  simp only [gsX_X6_unit_2, stk_eq, if_neg h0, if_neg h1, if_pos h2, if_neg h3, h4, ite11, ite01, if_true, if_false]
theorem gsX_X6_unit_2_q11 {NF : Nat} {v : Nat → Int32} {f : Nat → Nat → Int32} {v47 : Nat → Int32} {f48 : Nat → Nat → Int32} (h0 : ¬ ((v 2) = 2)) (h1 : ¬ ((v 2) < 116)) (h2 : (121 < (v 2))) (h3 : ¬ ((v 2) = 40)) (h4 : gsX_X6_refuse_1 NF v f = (0, v47, f48)) : gsX_X6_unit_2 NF v f = (0, v47, f48) := by
  simp only [gsX_X6_unit_2, stk_eq, if_neg h0, if_neg h1, if_pos h2, if_neg h3, h4, ite11, ite01, if_true, if_false]
theorem gsX_X6_unit_2_q12 {NF : Nat} {v : Nat → Int32} {f : Nat → Nat → Int32} {t51 : Int32} {v54 : Nat → Int32} {f55 : Nat → Nat → Int32} {v58 : Nat → Int32} {f59 : Nat → Nat → Int32} {v63 : Nat → Int32} {f64 : Nat → Nat → Int32} (h0 : ¬ ((v 2) = 2)) (h1 : ¬ ((v 2) < 116)) (h2 : (121 < (v 2))) (h3 : ((v 2) = 40)) (h4 : ((v 17) < 30)) (h5 : t51 = (v 17) + 1) (h6 : gsX_X9_advance_1 NF (upd v 17 t51) f = (v54, f55)) (h7 : gsX_X6_expression_13 NF v54 f55 = (1, v58, f59)) (h9 : gsX_X6_taken_1 NF 41 v58 f59 = (1, v63, f64)) : gsX_X6_unit_2 NF v f = (1, v63, f64) := by
  subst h5
  simp only [gsX_X6_unit_2, stk_eq, if_neg h0, if_neg h1, if_pos h2, if_pos h3, if_pos h4, h6, h7, h9, ite11, ite01, if_true, if_false]
theorem gsX_X6_unit_2_q13 {NF : Nat} {v : Nat → Int32} {f : Nat → Nat → Int32} {t51 : Int32} {v54 : Nat → Int32} {f55 : Nat → Nat → Int32} {v58 : Nat → Int32} {f59 : Nat → Nat → Int32} {v63 : Nat → Int32} {f64 : Nat → Nat → Int32} (h0 : ¬ ((v 2) = 2)) (h1 : ¬ ((v 2) < 116)) (h2 : (121 < (v 2))) (h3 : ((v 2) = 40)) (h4 : ((v 17) < 30)) (h5 : t51 = (v 17) + 1) (h6 : gsX_X9_advance_1 NF (upd v 17 t51) f = (v54, f55)) (h7 : gsX_X6_expression_13 NF v54 f55 = (1, v58, f59)) (h9 : gsX_X6_taken_1 NF 41 v58 f59 = (0, v63, f64)) : gsX_X6_unit_2 NF v f = (0, v63, f64) := by
  subst h5
  simp only [gsX_X6_unit_2, stk_eq, if_neg h0, if_neg h1, if_pos h2, if_pos h3, if_pos h4, h6, h7, h9, ite11, ite01, if_true, if_false]
theorem gsX_X6_unit_2_q14 {NF : Nat} {v : Nat → Int32} {f : Nat → Nat → Int32} {t51 : Int32} {v54 : Nat → Int32} {f55 : Nat → Nat → Int32} {v58 : Nat → Int32} {f59 : Nat → Nat → Int32} (h0 : ¬ ((v 2) = 2)) (h1 : ¬ ((v 2) < 116)) (h2 : (121 < (v 2))) (h3 : ((v 2) = 40)) (h4 : ((v 17) < 30)) (h5 : t51 = (v 17) + 1) (h6 : gsX_X9_advance_1 NF (upd v 17 t51) f = (v54, f55)) (h7 : gsX_X6_expression_13 NF v54 f55 = (0, v58, f59)) : gsX_X6_unit_2 NF v f = (0, v58, f59) := by
  subst h5
  simp only [gsX_X6_unit_2, stk_eq, if_neg h0, if_neg h1, if_pos h2, if_pos h3, if_pos h4, h6, h7, ite11, ite01, if_true, if_false]
theorem gsX_X6_unit_2_q15 {NF : Nat} {v : Nat → Int32} {f : Nat → Nat → Int32} {v68 : Nat → Int32} {f69 : Nat → Nat → Int32} (h0 : ¬ ((v 2) = 2)) (h1 : ¬ ((v 2) < 116)) (h2 : (121 < (v 2))) (h3 : ((v 2) = 40)) (h4 : ¬ ((v 17) < 30)) (h5 : gsX_X6_refuse_1 NF v f = (1, v68, f69)) : gsX_X6_unit_2 NF v f = (1, v68, f69) := by
  simp only [gsX_X6_unit_2, stk_eq, if_neg h0, if_neg h1, if_pos h2, if_pos h3, if_neg h4, h5, ite11, ite01, if_true, if_false]
theorem gsX_X6_unit_2_q16 {NF : Nat} {v : Nat → Int32} {f : Nat → Nat → Int32} {v68 : Nat → Int32} {f69 : Nat → Nat → Int32} (h0 : ¬ ((v 2) = 2)) (h1 : ¬ ((v 2) < 116)) (h2 : (121 < (v 2))) (h3 : ((v 2) = 40)) (h4 : ¬ ((v 17) < 30)) (h5 : gsX_X6_refuse_1 NF v f = (0, v68, f69)) : gsX_X6_unit_2 NF v f = (0, v68, f69) := by
  simp only [gsX_X6_unit_2, stk_eq, if_neg h0, if_neg h1, if_pos h2, if_pos h3, if_neg h4, h5, ite11, ite01, if_true, if_false]
theorem gsX_X6_unit_2_q17 {NF : Nat} {v : Nat → Int32} {f : Nat → Nat → Int32} {v73 : Nat → Int32} {f74 : Nat → Nat → Int32} {t75 : Int32} {v77 : Nat → Int32} {f78 : Nat → Nat → Int32} (h0 : ¬ ((v 2) = 2)) (h1 : ¬ ((v 2) < 116)) (h2 : ¬ (121 < (v 2))) (h3 : ((v 17) < 30)) (h4 : gsX_X4_add_1 NF (v 2) (v 5) v f = (v73, f74)) (h5 : t75 = (v73 17) + 1) (h6 : gsX_X9_advance_1 NF (upd v73 17 t75) f74 = (v77, f78)) : gsX_X6_unit_2 NF v f = (1, v77, f78) := by
  subst h5
  simp only [gsX_X6_unit_2, stk_eq, if_neg h0, if_neg h1, if_neg h2, if_pos h3, h4, h6]
theorem gsX_X6_unit_2_q18 {NF : Nat} {v : Nat → Int32} {f : Nat → Nat → Int32} {v81 : Nat → Int32} {f82 : Nat → Nat → Int32} (h0 : ¬ ((v 2) = 2)) (h1 : ¬ ((v 2) < 116)) (h2 : ¬ (121 < (v 2))) (h3 : ¬ ((v 17) < 30)) (h4 : gsX_X6_refuse_1 NF v f = (1, v81, f82)) : gsX_X6_unit_2 NF v f = (1, v81, f82) := by
  simp only [gsX_X6_unit_2, stk_eq, if_neg h0, if_neg h1, if_neg h2, if_neg h3, h4, ite11, ite01, if_true, if_false]
theorem gsX_X6_unit_2_q19 {NF : Nat} {v : Nat → Int32} {f : Nat → Nat → Int32} {v81 : Nat → Int32} {f82 : Nat → Nat → Int32} (h0 : ¬ ((v 2) = 2)) (h1 : ¬ ((v 2) < 116)) (h2 : ¬ (121 < (v 2))) (h3 : ¬ ((v 17) < 30)) (h4 : gsX_X6_refuse_1 NF v f = (0, v81, f82)) : gsX_X6_unit_2 NF v f = (0, v81, f82) := by
  simp only [gsX_X6_unit_2, stk_eq, if_neg h0, if_neg h1, if_neg h2, if_neg h3, h4, ite11, ite01, if_true, if_false]
def gsX_X6_expression_12 (NF : Nat) (v : Nat → Int32) (f : Nat → Nat → Int32) : Int32 × (Nat → Int32) × (Nat → Nat → Int32) :=
  match gsX_X6_unit_2 NF v f with
  | (r1, v3, f4) =>
    if r1 = 1 then
      (1, v3, f4)
    else
      (0, v3, f4)
theorem gsX_X6_expression_12_q0 {NF : Nat} {v : Nat → Int32} {f : Nat → Nat → Int32} {v3 : Nat → Int32} {f4 : Nat → Nat → Int32} (h0 : gsX_X6_unit_2 NF v f = (1, v3, f4)) : gsX_X6_expression_12 NF v f = (1, v3, f4) := by
  simp only [gsX_X6_expression_12, h0, ite11, ite01, if_true, if_false]
theorem gsX_X6_expression_12_q1 {NF : Nat} {v : Nat → Int32} {f : Nat → Nat → Int32} {v3 : Nat → Int32} {f4 : Nat → Nat → Int32} (h0 : gsX_X6_unit_2 NF v f = (0, v3, f4)) : gsX_X6_expression_12 NF v f = (0, v3, f4) := by
  simp only [gsX_X6_expression_12, h0, ite11, ite01, if_true, if_false]
def gsX_X6_expression_11_L6 (NF : Nat) : Nat → (Int32) → (Nat → Int32) → (Nat → Nat → Int32) → Int32 × (Nat → Int32) × (Nat → Nat → Int32)
  | 0, _, _, _ => (0, (fun _ => 0), (fun _ _ => 0))
  | n6 + 1, l4_6, v6, f6 =>
    if 1600 ≤ l4_6 then
      (1, v6, f6)
    else
      if gsX_X6_joins_1 NF 4 (v6 2) v6 f6 = 1 then
        match gsX_X9_advance_1 NF v6 f6 with
        | (v12, f13) =>
          match gsX_X6_expression_12 NF v12 f13 with
          | (r14, v16, f17) =>
            if r14 = 1 then
              match gsX_X4_add_1 NF (v6 2) 0 v16 f17 with
              | (v20, f21) =>
                let t22 : Int32 := l4_6 + 1
                gsX_X6_expression_11_L6 NF n6 t22 v20 f21
            else
              (0, v16, f17)
      else
        (1, v6, f6)
def gsX_X6_expression_11 (NF : Nat) (v : Nat → Int32) (f : Nat → Nat → Int32) : Int32 × (Nat → Int32) × (Nat → Nat → Int32) :=
  match gsX_X6_expression_12 NF v f with
  | (r1, v3, f4) =>
    if r1 = 1 then
      gsX_X6_expression_11_L6 NF (4294967296 + NF) 0 v3 f4
    else
      (0, v3, f4)
theorem gsX_X6_expression_11_q4 {NF : Nat} {v : Nat → Int32} {f : Nat → Nat → Int32} {v3 : Nat → Int32} {f4 : Nat → Nat → Int32} (h0 : gsX_X6_expression_12 NF v f = (1, v3, f4)) : gsX_X6_expression_11 NF v f = gsX_X6_expression_11_L6 NF (4294967296 + NF) 0 v3 f4 := by
  simp only [gsX_X6_expression_11, h0, ite11, ite01, if_true, if_false]
theorem gsX_X6_expression_11_q5 {NF : Nat} {v : Nat → Int32} {f : Nat → Nat → Int32} {v3 : Nat → Int32} {f4 : Nat → Nat → Int32} (h0 : gsX_X6_expression_12 NF v f = (0, v3, f4)) : gsX_X6_expression_11 NF v f = (0, v3, f4) := by
  simp only [gsX_X6_expression_11, h0, ite11, ite01, if_true, if_false]
theorem gsX_X6_expression_11_q0 {NF : Nat} {n6 : Nat} {l4_6 : Int32} {v6 : Nat → Int32} {f6 : Nat → Nat → Int32} (h0 : (1600 ≤ l4_6)) : gsX_X6_expression_11_L6 NF (n6 + 1) l4_6 v6 f6 = (1, v6, f6) := by
  simp only [gsX_X6_expression_11_L6, if_pos h0]
theorem gsX_X6_expression_11_q1 {NF : Nat} {n6 : Nat} {l4_6 : Int32} {v6 : Nat → Int32} {f6 : Nat → Nat → Int32} {v12 : Nat → Int32} {f13 : Nat → Nat → Int32} {v16 : Nat → Int32} {f17 : Nat → Nat → Int32} {v20 : Nat → Int32} {f21 : Nat → Nat → Int32} {t22 : Int32} (h0 : ¬ (1600 ≤ l4_6)) (h1 : gsX_X6_joins_1 NF 4 (v6 2) v6 f6 = 1) (h2 : gsX_X9_advance_1 NF v6 f6 = (v12, f13)) (h3 : gsX_X6_expression_12 NF v12 f13 = (1, v16, f17)) (h5 : gsX_X4_add_1 NF (v6 2) 0 v16 f17 = (v20, f21)) (h6 : t22 = l4_6 + 1) : gsX_X6_expression_11_L6 NF (n6 + 1) l4_6 v6 f6 = gsX_X6_expression_11_L6 NF n6 t22 v20 f21 := by
  subst h6
  simp only [gsX_X6_expression_11_L6, if_neg h0, h1, h2, h3, h5, ite11, ite01, if_true, if_false]
theorem gsX_X6_expression_11_q2 {NF : Nat} {n6 : Nat} {l4_6 : Int32} {v6 : Nat → Int32} {f6 : Nat → Nat → Int32} {v12 : Nat → Int32} {f13 : Nat → Nat → Int32} {v16 : Nat → Int32} {f17 : Nat → Nat → Int32} (h0 : ¬ (1600 ≤ l4_6)) (h1 : gsX_X6_joins_1 NF 4 (v6 2) v6 f6 = 1) (h2 : gsX_X9_advance_1 NF v6 f6 = (v12, f13)) (h3 : gsX_X6_expression_12 NF v12 f13 = (0, v16, f17)) : gsX_X6_expression_11_L6 NF (n6 + 1) l4_6 v6 f6 = (0, v16, f17) := by
  simp only [gsX_X6_expression_11_L6, if_neg h0, h1, h2, h3, ite11, ite01, if_true, if_false]
theorem gsX_X6_expression_11_q3 {NF : Nat} {n6 : Nat} {l4_6 : Int32} {v6 : Nat → Int32} {f6 : Nat → Nat → Int32} (h0 : ¬ (1600 ≤ l4_6)) (h1 : gsX_X6_joins_1 NF 4 (v6 2) v6 f6 = 0) : gsX_X6_expression_11_L6 NF (n6 + 1) l4_6 v6 f6 = (1, v6, f6) := by
  simp only [gsX_X6_expression_11_L6, if_neg h0, h1, ite11, ite01, if_true, if_false]
def gsX_X6_expression_10_L6 (NF : Nat) : Nat → (Int32) → (Nat → Int32) → (Nat → Nat → Int32) → Int32 × (Nat → Int32) × (Nat → Nat → Int32)
  | 0, _, _, _ => (0, (fun _ => 0), (fun _ _ => 0))
  | n6 + 1, l4_6, v6, f6 =>
    if 1600 ≤ l4_6 then
      (1, v6, f6)
    else
      if gsX_X6_joins_1 NF 3 (v6 2) v6 f6 = 1 then
        match gsX_X9_advance_1 NF v6 f6 with
        | (v12, f13) =>
          match gsX_X6_expression_11 NF v12 f13 with
          | (r14, v16, f17) =>
            if r14 = 1 then
              match gsX_X4_add_1 NF (v6 2) 0 v16 f17 with
              | (v20, f21) =>
                let t22 : Int32 := l4_6 + 1
                gsX_X6_expression_10_L6 NF n6 t22 v20 f21
            else
              (0, v16, f17)
      else
        (1, v6, f6)
def gsX_X6_expression_10 (NF : Nat) (v : Nat → Int32) (f : Nat → Nat → Int32) : Int32 × (Nat → Int32) × (Nat → Nat → Int32) :=
  match gsX_X6_expression_11 NF v f with
  | (r1, v3, f4) =>
    if r1 = 1 then
      gsX_X6_expression_10_L6 NF (4294967296 + NF) 0 v3 f4
    else
      (0, v3, f4)
theorem gsX_X6_expression_10_q4 {NF : Nat} {v : Nat → Int32} {f : Nat → Nat → Int32} {v3 : Nat → Int32} {f4 : Nat → Nat → Int32} (h0 : gsX_X6_expression_11 NF v f = (1, v3, f4)) : gsX_X6_expression_10 NF v f = gsX_X6_expression_10_L6 NF (4294967296 + NF) 0 v3 f4 := by
  simp only [gsX_X6_expression_10, h0, ite11, ite01, if_true, if_false]
theorem gsX_X6_expression_10_q5 {NF : Nat} {v : Nat → Int32} {f : Nat → Nat → Int32} {v3 : Nat → Int32} {f4 : Nat → Nat → Int32} (h0 : gsX_X6_expression_11 NF v f = (0, v3, f4)) : gsX_X6_expression_10 NF v f = (0, v3, f4) := by
  simp only [gsX_X6_expression_10, h0, ite11, ite01, if_true, if_false]
theorem gsX_X6_expression_10_q0 {NF : Nat} {n6 : Nat} {l4_6 : Int32} {v6 : Nat → Int32} {f6 : Nat → Nat → Int32} (h0 : (1600 ≤ l4_6)) : gsX_X6_expression_10_L6 NF (n6 + 1) l4_6 v6 f6 = (1, v6, f6) := by
  simp only [gsX_X6_expression_10_L6, if_pos h0]
theorem gsX_X6_expression_10_q1 {NF : Nat} {n6 : Nat} {l4_6 : Int32} {v6 : Nat → Int32} {f6 : Nat → Nat → Int32} {v12 : Nat → Int32} {f13 : Nat → Nat → Int32} {v16 : Nat → Int32} {f17 : Nat → Nat → Int32} {v20 : Nat → Int32} {f21 : Nat → Nat → Int32} {t22 : Int32} (h0 : ¬ (1600 ≤ l4_6)) (h1 : gsX_X6_joins_1 NF 3 (v6 2) v6 f6 = 1) (h2 : gsX_X9_advance_1 NF v6 f6 = (v12, f13)) (h3 : gsX_X6_expression_11 NF v12 f13 = (1, v16, f17)) (h5 : gsX_X4_add_1 NF (v6 2) 0 v16 f17 = (v20, f21)) (h6 : t22 = l4_6 + 1) : gsX_X6_expression_10_L6 NF (n6 + 1) l4_6 v6 f6 = gsX_X6_expression_10_L6 NF n6 t22 v20 f21 := by
  subst h6
  simp only [gsX_X6_expression_10_L6, if_neg h0, h1, h2, h3, h5, ite11, ite01, if_true, if_false]
theorem gsX_X6_expression_10_q2 {NF : Nat} {n6 : Nat} {l4_6 : Int32} {v6 : Nat → Int32} {f6 : Nat → Nat → Int32} {v12 : Nat → Int32} {f13 : Nat → Nat → Int32} {v16 : Nat → Int32} {f17 : Nat → Nat → Int32} (h0 : ¬ (1600 ≤ l4_6)) (h1 : gsX_X6_joins_1 NF 3 (v6 2) v6 f6 = 1) (h2 : gsX_X9_advance_1 NF v6 f6 = (v12, f13)) (h3 : gsX_X6_expression_11 NF v12 f13 = (0, v16, f17)) : gsX_X6_expression_10_L6 NF (n6 + 1) l4_6 v6 f6 = (0, v16, f17) := by
  simp only [gsX_X6_expression_10_L6, if_neg h0, h1, h2, h3, ite11, ite01, if_true, if_false]
theorem gsX_X6_expression_10_q3 {NF : Nat} {n6 : Nat} {l4_6 : Int32} {v6 : Nat → Int32} {f6 : Nat → Nat → Int32} (h0 : ¬ (1600 ≤ l4_6)) (h1 : gsX_X6_joins_1 NF 3 (v6 2) v6 f6 = 0) : gsX_X6_expression_10_L6 NF (n6 + 1) l4_6 v6 f6 = (1, v6, f6) := by
  simp only [gsX_X6_expression_10_L6, if_neg h0, h1, ite11, ite01, if_true, if_false]
def gsX_X6_negation_7 (NF : Nat) (v : Nat → Int32) (f : Nat → Nat → Int32) : Int32 × (Nat → Int32) × (Nat → Nat → Int32) :=
  match gsX_X9_advance_1 NF v f with
  | (v2, f3) =>
    match stk NF (gsX_X6_expression_15 NF v2 f3) with
    | (r4, v6, f7) =>
      if r4 = 1 then
        match gsX_X4_add_1 NF 115 0 v6 f7 with
        | (v10, f11) =>
          (1, v10, f11)
      else
        (0, v6, f7)
theorem gsX_X6_negation_7_q0 {NF : Nat} {v : Nat → Int32} {f : Nat → Nat → Int32} {v2 : Nat → Int32} {f3 : Nat → Nat → Int32} {v6 : Nat → Int32} {f7 : Nat → Nat → Int32} {v10 : Nat → Int32} {f11 : Nat → Nat → Int32} (h0 : gsX_X9_advance_1 NF v f = (v2, f3)) (h1 : gsX_X6_expression_15 NF v2 f3 = (1, v6, f7)) (h3 : gsX_X4_add_1 NF 115 0 v6 f7 = (v10, f11)) : gsX_X6_negation_7 NF v f = (1, v10, f11) := by
  simp only [gsX_X6_negation_7, stk_eq, h0, h1, h3, ite11, ite01, if_true, if_false]
theorem gsX_X6_negation_7_q1 {NF : Nat} {v : Nat → Int32} {f : Nat → Nat → Int32} {v2 : Nat → Int32} {f3 : Nat → Nat → Int32} {v6 : Nat → Int32} {f7 : Nat → Nat → Int32} (h0 : gsX_X9_advance_1 NF v f = (v2, f3)) (h1 : gsX_X6_expression_15 NF v2 f3 = (0, v6, f7)) : gsX_X6_negation_7 NF v f = (0, v6, f7) := by
  simp only [gsX_X6_negation_7, stk_eq, h0, h1, ite11, ite01, if_true, if_false]
def gsX_X6_expression_9_L7 (NF : Nat) : Nat → (Int32) → (Nat → Int32) → (Nat → Nat → Int32) → Int32 × (Nat → Int32) × (Nat → Nat → Int32)
  | 0, _, _, _ => (0, (fun _ => 0), (fun _ _ => 0))
  | n7 + 1, l4_7, v7, f7 =>
    if 1 ≤ l4_7 then
      (1, v7, f7)
    else
      if gsX_X6_joins_1 NF 2 (v7 2) v7 f7 = 1 then
        match gsX_X9_advance_1 NF v7 f7 with
        | (v13, f14) =>
          match gsX_X6_expression_10 NF v13 f14 with
          | (r15, v17, f18) =>
            if r15 = 1 then
              match gsX_X4_add_1 NF (v7 2) 0 v17 f18 with
              | (v21, f22) =>
                let t23 : Int32 := l4_7 + 1
                gsX_X6_expression_9_L7 NF n7 t23 v21 f22
            else
              (0, v17, f18)
      else
        (1, v7, f7)
def gsX_X6_expression_9 (NF : Nat) (v : Nat → Int32) (f : Nat → Nat → Int32) : Int32 × (Nat → Int32) × (Nat → Nat → Int32) :=
  if (v 2) = 115 then
    match gsX_X6_negation_7 NF v f with
    | (r26, v28, f29) =>
      if r26 = 1 then
        (1, v28, f29)
      else
        (0, v28, f29)
  else
    match gsX_X6_expression_10 NF v f with
    | (r2, v4, f5) =>
      if r2 = 1 then
        gsX_X6_expression_9_L7 NF (4294967296 + NF) 0 v4 f5
      else
        (0, v4, f5)
theorem gsX_X6_expression_9_q4 {NF : Nat} {v : Nat → Int32} {f : Nat → Nat → Int32} {v4 : Nat → Int32} {f5 : Nat → Nat → Int32} (h0 : ¬ ((v 2) = 115)) (h1 : gsX_X6_expression_10 NF v f = (1, v4, f5)) : gsX_X6_expression_9 NF v f = gsX_X6_expression_9_L7 NF (4294967296 + NF) 0 v4 f5 := by
  simp only [gsX_X6_expression_9, if_neg h0, h1, ite11, ite01, if_true, if_false]
theorem gsX_X6_expression_9_q5 {NF : Nat} {v : Nat → Int32} {f : Nat → Nat → Int32} {v4 : Nat → Int32} {f5 : Nat → Nat → Int32} (h0 : ¬ ((v 2) = 115)) (h1 : gsX_X6_expression_10 NF v f = (0, v4, f5)) : gsX_X6_expression_9 NF v f = (0, v4, f5) := by
  simp only [gsX_X6_expression_9, if_neg h0, h1, ite11, ite01, if_true, if_false]
theorem gsX_X6_expression_9_q6 {NF : Nat} {v : Nat → Int32} {f : Nat → Nat → Int32} {v28 : Nat → Int32} {f29 : Nat → Nat → Int32} (h0 : ((v 2) = 115)) (h1 : gsX_X6_negation_7 NF v f = (1, v28, f29)) : gsX_X6_expression_9 NF v f = (1, v28, f29) := by
  simp only [gsX_X6_expression_9, if_pos h0, h1, ite11, ite01, if_true, if_false]
theorem gsX_X6_expression_9_q7 {NF : Nat} {v : Nat → Int32} {f : Nat → Nat → Int32} {v28 : Nat → Int32} {f29 : Nat → Nat → Int32} (h0 : ((v 2) = 115)) (h1 : gsX_X6_negation_7 NF v f = (0, v28, f29)) : gsX_X6_expression_9 NF v f = (0, v28, f29) := by
  simp only [gsX_X6_expression_9, if_pos h0, h1, ite11, ite01, if_true, if_false]
theorem gsX_X6_expression_9_q0 {NF : Nat} {n7 : Nat} {l4_7 : Int32} {v7 : Nat → Int32} {f7 : Nat → Nat → Int32} (h0 : (1 ≤ l4_7)) : gsX_X6_expression_9_L7 NF (n7 + 1) l4_7 v7 f7 = (1, v7, f7) := by
  simp only [gsX_X6_expression_9_L7, if_pos h0]
theorem gsX_X6_expression_9_q1 {NF : Nat} {n7 : Nat} {l4_7 : Int32} {v7 : Nat → Int32} {f7 : Nat → Nat → Int32} {v13 : Nat → Int32} {f14 : Nat → Nat → Int32} {v17 : Nat → Int32} {f18 : Nat → Nat → Int32} {v21 : Nat → Int32} {f22 : Nat → Nat → Int32} {t23 : Int32} (h0 : ¬ (1 ≤ l4_7)) (h1 : gsX_X6_joins_1 NF 2 (v7 2) v7 f7 = 1) (h2 : gsX_X9_advance_1 NF v7 f7 = (v13, f14)) (h3 : gsX_X6_expression_10 NF v13 f14 = (1, v17, f18)) (h5 : gsX_X4_add_1 NF (v7 2) 0 v17 f18 = (v21, f22)) (h6 : t23 = l4_7 + 1) : gsX_X6_expression_9_L7 NF (n7 + 1) l4_7 v7 f7 = gsX_X6_expression_9_L7 NF n7 t23 v21 f22 := by
  subst h6
  simp only [gsX_X6_expression_9_L7, if_neg h0, h1, h2, h3, h5, ite11, ite01, if_true, if_false]
theorem gsX_X6_expression_9_q2 {NF : Nat} {n7 : Nat} {l4_7 : Int32} {v7 : Nat → Int32} {f7 : Nat → Nat → Int32} {v13 : Nat → Int32} {f14 : Nat → Nat → Int32} {v17 : Nat → Int32} {f18 : Nat → Nat → Int32} (h0 : ¬ (1 ≤ l4_7)) (h1 : gsX_X6_joins_1 NF 2 (v7 2) v7 f7 = 1) (h2 : gsX_X9_advance_1 NF v7 f7 = (v13, f14)) (h3 : gsX_X6_expression_10 NF v13 f14 = (0, v17, f18)) : gsX_X6_expression_9_L7 NF (n7 + 1) l4_7 v7 f7 = (0, v17, f18) := by
  simp only [gsX_X6_expression_9_L7, if_neg h0, h1, h2, h3, ite11, ite01, if_true, if_false]
theorem gsX_X6_expression_9_q3 {NF : Nat} {n7 : Nat} {l4_7 : Int32} {v7 : Nat → Int32} {f7 : Nat → Nat → Int32} (h0 : ¬ (1 ≤ l4_7)) (h1 : gsX_X6_joins_1 NF 2 (v7 2) v7 f7 = 0) : gsX_X6_expression_9_L7 NF (n7 + 1) l4_7 v7 f7 = (1, v7, f7) := by
  simp only [gsX_X6_expression_9_L7, if_neg h0, h1, ite11, ite01, if_true, if_false]
def gsX_X6_expression_8_L6 (NF : Nat) : Nat → (Int32) → (Nat → Int32) → (Nat → Nat → Int32) → Int32 × (Nat → Int32) × (Nat → Nat → Int32)
  | 0, _, _, _ => (0, (fun _ => 0), (fun _ _ => 0))
  | n6 + 1, l4_6, v6, f6 =>
    if 1600 ≤ l4_6 then
      (1, v6, f6)
    else
      if gsX_X6_joins_1 NF 1 (v6 2) v6 f6 = 1 then
        match gsX_X9_advance_1 NF v6 f6 with
        | (v12, f13) =>
          match gsX_X6_expression_9 NF v12 f13 with
          | (r14, v16, f17) =>
            if r14 = 1 then
              match gsX_X4_add_1 NF (v6 2) 0 v16 f17 with
              | (v20, f21) =>
                let t22 : Int32 := l4_6 + 1
                gsX_X6_expression_8_L6 NF n6 t22 v20 f21
            else
              (0, v16, f17)
      else
        (1, v6, f6)
def gsX_X6_expression_8 (NF : Nat) (v : Nat → Int32) (f : Nat → Nat → Int32) : Int32 × (Nat → Int32) × (Nat → Nat → Int32) :=
  match gsX_X6_expression_9 NF v f with
  | (r1, v3, f4) =>
    if r1 = 1 then
      gsX_X6_expression_8_L6 NF (4294967296 + NF) 0 v3 f4
    else
      (0, v3, f4)
theorem gsX_X6_expression_8_q4 {NF : Nat} {v : Nat → Int32} {f : Nat → Nat → Int32} {v3 : Nat → Int32} {f4 : Nat → Nat → Int32} (h0 : gsX_X6_expression_9 NF v f = (1, v3, f4)) : gsX_X6_expression_8 NF v f = gsX_X6_expression_8_L6 NF (4294967296 + NF) 0 v3 f4 := by
  simp only [gsX_X6_expression_8, h0, ite11, ite01, if_true, if_false]
theorem gsX_X6_expression_8_q5 {NF : Nat} {v : Nat → Int32} {f : Nat → Nat → Int32} {v3 : Nat → Int32} {f4 : Nat → Nat → Int32} (h0 : gsX_X6_expression_9 NF v f = (0, v3, f4)) : gsX_X6_expression_8 NF v f = (0, v3, f4) := by
  simp only [gsX_X6_expression_8, h0, ite11, ite01, if_true, if_false]
theorem gsX_X6_expression_8_q0 {NF : Nat} {n6 : Nat} {l4_6 : Int32} {v6 : Nat → Int32} {f6 : Nat → Nat → Int32} (h0 : (1600 ≤ l4_6)) : gsX_X6_expression_8_L6 NF (n6 + 1) l4_6 v6 f6 = (1, v6, f6) := by
  simp only [gsX_X6_expression_8_L6, if_pos h0]
theorem gsX_X6_expression_8_q1 {NF : Nat} {n6 : Nat} {l4_6 : Int32} {v6 : Nat → Int32} {f6 : Nat → Nat → Int32} {v12 : Nat → Int32} {f13 : Nat → Nat → Int32} {v16 : Nat → Int32} {f17 : Nat → Nat → Int32} {v20 : Nat → Int32} {f21 : Nat → Nat → Int32} {t22 : Int32} (h0 : ¬ (1600 ≤ l4_6)) (h1 : gsX_X6_joins_1 NF 1 (v6 2) v6 f6 = 1) (h2 : gsX_X9_advance_1 NF v6 f6 = (v12, f13)) (h3 : gsX_X6_expression_9 NF v12 f13 = (1, v16, f17)) (h5 : gsX_X4_add_1 NF (v6 2) 0 v16 f17 = (v20, f21)) (h6 : t22 = l4_6 + 1) : gsX_X6_expression_8_L6 NF (n6 + 1) l4_6 v6 f6 = gsX_X6_expression_8_L6 NF n6 t22 v20 f21 := by
  subst h6
  simp only [gsX_X6_expression_8_L6, if_neg h0, h1, h2, h3, h5, ite11, ite01, if_true, if_false]
theorem gsX_X6_expression_8_q2 {NF : Nat} {n6 : Nat} {l4_6 : Int32} {v6 : Nat → Int32} {f6 : Nat → Nat → Int32} {v12 : Nat → Int32} {f13 : Nat → Nat → Int32} {v16 : Nat → Int32} {f17 : Nat → Nat → Int32} (h0 : ¬ (1600 ≤ l4_6)) (h1 : gsX_X6_joins_1 NF 1 (v6 2) v6 f6 = 1) (h2 : gsX_X9_advance_1 NF v6 f6 = (v12, f13)) (h3 : gsX_X6_expression_9 NF v12 f13 = (0, v16, f17)) : gsX_X6_expression_8_L6 NF (n6 + 1) l4_6 v6 f6 = (0, v16, f17) := by
  simp only [gsX_X6_expression_8_L6, if_neg h0, h1, h2, h3, ite11, ite01, if_true, if_false]
theorem gsX_X6_expression_8_q3 {NF : Nat} {n6 : Nat} {l4_6 : Int32} {v6 : Nat → Int32} {f6 : Nat → Nat → Int32} (h0 : ¬ (1600 ≤ l4_6)) (h1 : gsX_X6_joins_1 NF 1 (v6 2) v6 f6 = 0) : gsX_X6_expression_8_L6 NF (n6 + 1) l4_6 v6 f6 = (1, v6, f6) := by
  simp only [gsX_X6_expression_8_L6, if_neg h0, h1, ite11, ite01, if_true, if_false]
def gsX_X6_expression_7_L6 (NF : Nat) : Nat → (Int32) → (Nat → Int32) → (Nat → Nat → Int32) → Int32 × (Nat → Int32) × (Nat → Nat → Int32)
  | 0, _, _, _ => (0, (fun _ => 0), (fun _ _ => 0))
  | n6 + 1, l4_6, v6, f6 =>
    if 1600 ≤ l4_6 then
      (1, v6, f6)
    else
      if gsX_X6_joins_1 NF 0 (v6 2) v6 f6 = 1 then
        match gsX_X9_advance_1 NF v6 f6 with
        | (v12, f13) =>
          match gsX_X6_expression_8 NF v12 f13 with
          | (r14, v16, f17) =>
            if r14 = 1 then
              match gsX_X4_add_1 NF (v6 2) 0 v16 f17 with
              | (v20, f21) =>
                let t22 : Int32 := l4_6 + 1
                gsX_X6_expression_7_L6 NF n6 t22 v20 f21
            else
              (0, v16, f17)
      else
        (1, v6, f6)
def gsX_X6_expression_7 (NF : Nat) (v : Nat → Int32) (f : Nat → Nat → Int32) : Int32 × (Nat → Int32) × (Nat → Nat → Int32) :=
  match gsX_X6_expression_8 NF v f with
  | (r1, v3, f4) =>
    if r1 = 1 then
      gsX_X6_expression_7_L6 NF (4294967296 + NF) 0 v3 f4
    else
      (0, v3, f4)
theorem gsX_X6_expression_7_q4 {NF : Nat} {v : Nat → Int32} {f : Nat → Nat → Int32} {v3 : Nat → Int32} {f4 : Nat → Nat → Int32} (h0 : gsX_X6_expression_8 NF v f = (1, v3, f4)) : gsX_X6_expression_7 NF v f = gsX_X6_expression_7_L6 NF (4294967296 + NF) 0 v3 f4 := by
  simp only [gsX_X6_expression_7, h0, ite11, ite01, if_true, if_false]
theorem gsX_X6_expression_7_q5 {NF : Nat} {v : Nat → Int32} {f : Nat → Nat → Int32} {v3 : Nat → Int32} {f4 : Nat → Nat → Int32} (h0 : gsX_X6_expression_8 NF v f = (0, v3, f4)) : gsX_X6_expression_7 NF v f = (0, v3, f4) := by
  simp only [gsX_X6_expression_7, h0, ite11, ite01, if_true, if_false]
theorem gsX_X6_expression_7_q0 {NF : Nat} {n6 : Nat} {l4_6 : Int32} {v6 : Nat → Int32} {f6 : Nat → Nat → Int32} (h0 : (1600 ≤ l4_6)) : gsX_X6_expression_7_L6 NF (n6 + 1) l4_6 v6 f6 = (1, v6, f6) := by
  simp only [gsX_X6_expression_7_L6, if_pos h0]
theorem gsX_X6_expression_7_q1 {NF : Nat} {n6 : Nat} {l4_6 : Int32} {v6 : Nat → Int32} {f6 : Nat → Nat → Int32} {v12 : Nat → Int32} {f13 : Nat → Nat → Int32} {v16 : Nat → Int32} {f17 : Nat → Nat → Int32} {v20 : Nat → Int32} {f21 : Nat → Nat → Int32} {t22 : Int32} (h0 : ¬ (1600 ≤ l4_6)) (h1 : gsX_X6_joins_1 NF 0 (v6 2) v6 f6 = 1) (h2 : gsX_X9_advance_1 NF v6 f6 = (v12, f13)) (h3 : gsX_X6_expression_8 NF v12 f13 = (1, v16, f17)) (h5 : gsX_X4_add_1 NF (v6 2) 0 v16 f17 = (v20, f21)) (h6 : t22 = l4_6 + 1) : gsX_X6_expression_7_L6 NF (n6 + 1) l4_6 v6 f6 = gsX_X6_expression_7_L6 NF n6 t22 v20 f21 := by
  subst h6
  simp only [gsX_X6_expression_7_L6, if_neg h0, h1, h2, h3, h5, ite11, ite01, if_true, if_false]
theorem gsX_X6_expression_7_q2 {NF : Nat} {n6 : Nat} {l4_6 : Int32} {v6 : Nat → Int32} {f6 : Nat → Nat → Int32} {v12 : Nat → Int32} {f13 : Nat → Nat → Int32} {v16 : Nat → Int32} {f17 : Nat → Nat → Int32} (h0 : ¬ (1600 ≤ l4_6)) (h1 : gsX_X6_joins_1 NF 0 (v6 2) v6 f6 = 1) (h2 : gsX_X9_advance_1 NF v6 f6 = (v12, f13)) (h3 : gsX_X6_expression_8 NF v12 f13 = (0, v16, f17)) : gsX_X6_expression_7_L6 NF (n6 + 1) l4_6 v6 f6 = (0, v16, f17) := by
  simp only [gsX_X6_expression_7_L6, if_neg h0, h1, h2, h3, ite11, ite01, if_true, if_false]
theorem gsX_X6_expression_7_q3 {NF : Nat} {n6 : Nat} {l4_6 : Int32} {v6 : Nat → Int32} {f6 : Nat → Nat → Int32} (h0 : ¬ (1600 ≤ l4_6)) (h1 : gsX_X6_joins_1 NF 0 (v6 2) v6 f6 = 0) : gsX_X6_expression_7_L6 NF (n6 + 1) l4_6 v6 f6 = (1, v6, f6) := by
  simp only [gsX_X6_expression_7_L6, if_neg h0, h1, ite11, ite01, if_true, if_false]
def gsX_X6_unit_1 (NF : Nat) (v : Nat → Int32) (f : Nat → Nat → Int32) : Int32 × (Nat → Int32) × (Nat → Nat → Int32) :=
  if (v 2) = 2 then
    if (v 17) < 30 then
      match gsX_X4_add_1 NF (v 2) (v 5) v f with
      | (v4, f5) =>
        let t6 : Int32 := (v4 17) + 1
        match gsX_X9_advance_1 NF (upd v4 17 t6) f5 with
        | (v8, f9) =>
          (1, v8, f9)
    else
      match gsX_X6_refuse_1 NF v f with
      | (r10, v12, f13) =>
        if r10 = 1 then
          (1, v12, f13)
        else
          (0, v12, f13)
  else
    if (v 2) < 116 then
      if (v 2) = 40 then
        if (v 17) < 30 then
          let t23 : Int32 := (v 17) + 1
          match gsX_X9_advance_1 NF (upd v 17 t23) f with
          | (v26, f27) =>
            match stk NF (gsX_X6_expression_7 NF v26 f27) with
            | (r28, v30, f31) =>
              if r28 = 1 then
                match gsX_X6_taken_1 NF 41 v30 f31 with
                | (r33, v35, f36) =>
                  if r33 = 1 then
                    (1, v35, f36)
                  else
                    (0, v35, f36)
              else
                (0, v30, f31)
        else
          match gsX_X6_refuse_1 NF v f with
          | (r38, v40, f41) =>
            if r38 = 1 then
              (1, v40, f41)
            else
              (0, v40, f41)
      else
        match gsX_X6_refuse_1 NF v f with
        | (r17, v19, f20) =>
          if r17 = 1 then
            (1, v19, f20)
          else
            (0, v19, f20)
    else
      if 121 < (v 2) then
        if (v 2) = 40 then
          if (v 17) < 30 then
            let t51 : Int32 := (v 17) + 1
            match gsX_X9_advance_1 NF (upd v 17 t51) f with
            | (v54, f55) =>
              match stk NF (gsX_X6_expression_7 NF v54 f55) with
              | (r56, v58, f59) =>
                if r56 = 1 then
                  match gsX_X6_taken_1 NF 41 v58 f59 with
                  | (r61, v63, f64) =>
                    if r61 = 1 then
                      (1, v63, f64)
                    else
                      (0, v63, f64)
                else
                  (0, v58, f59)
          else
            match gsX_X6_refuse_1 NF v f with
            | (r66, v68, f69) =>
              if r66 = 1 then
                (1, v68, f69)
              else
                (0, v68, f69)
        else
          match gsX_X6_refuse_1 NF v f with
          | (r45, v47, f48) =>
            if r45 = 1 then
              (1, v47, f48)
            else
              (0, v47, f48)
      else
        if (v 17) < 30 then
          match gsX_X4_add_1 NF (v 2) (v 5) v f with
          | (v73, f74) =>
            let t75 : Int32 := (v73 17) + 1
            match gsX_X9_advance_1 NF (upd v73 17 t75) f74 with
            | (v77, f78) =>
              (1, v77, f78)
        else
          match gsX_X6_refuse_1 NF v f with
          | (r79, v81, f82) =>
            if r79 = 1 then
              (1, v81, f82)
            else
              (0, v81, f82)
theorem gsX_X6_unit_1_q0 {NF : Nat} {v : Nat → Int32} {f : Nat → Nat → Int32} {v4 : Nat → Int32} {f5 : Nat → Nat → Int32} {t6 : Int32} {v8 : Nat → Int32} {f9 : Nat → Nat → Int32} (h0 : ((v 2) = 2)) (h1 : ((v 17) < 30)) (h2 : gsX_X4_add_1 NF (v 2) (v 5) v f = (v4, f5)) (h3 : t6 = (v4 17) + 1) (h4 : gsX_X9_advance_1 NF (upd v4 17 t6) f5 = (v8, f9)) : gsX_X6_unit_1 NF v f = (1, v8, f9) := by
  subst h3
  simp only [gsX_X6_unit_1, stk_eq, if_pos h0, if_pos h1, h2, h4]
theorem gsX_X6_unit_1_q1 {NF : Nat} {v : Nat → Int32} {f : Nat → Nat → Int32} {v12 : Nat → Int32} {f13 : Nat → Nat → Int32} (h0 : ((v 2) = 2)) (h1 : ¬ ((v 17) < 30)) (h2 : gsX_X6_refuse_1 NF v f = (1, v12, f13)) : gsX_X6_unit_1 NF v f = (1, v12, f13) := by
  simp only [gsX_X6_unit_1, stk_eq, if_pos h0, if_neg h1, h2, ite11, ite01, if_true, if_false]
theorem gsX_X6_unit_1_q2 {NF : Nat} {v : Nat → Int32} {f : Nat → Nat → Int32} {v12 : Nat → Int32} {f13 : Nat → Nat → Int32} (h0 : ((v 2) = 2)) (h1 : ¬ ((v 17) < 30)) (h2 : gsX_X6_refuse_1 NF v f = (0, v12, f13)) : gsX_X6_unit_1 NF v f = (0, v12, f13) := by
  simp only [gsX_X6_unit_1, stk_eq, if_pos h0, if_neg h1, h2, ite11, ite01, if_true, if_false]
theorem gsX_X6_unit_1_q3 {NF : Nat} {v : Nat → Int32} {f : Nat → Nat → Int32} {v19 : Nat → Int32} {f20 : Nat → Nat → Int32} (h0 : ¬ ((v 2) = 2)) (h1 : ((v 2) < 116)) (h2 : ¬ ((v 2) = 40)) (h3 : gsX_X6_refuse_1 NF v f = (1, v19, f20)) : gsX_X6_unit_1 NF v f = (1, v19, f20) := by
  simp only [gsX_X6_unit_1, stk_eq, if_neg h0, if_pos h1, if_neg h2, h3, ite11, ite01, if_true, if_false]
theorem gsX_X6_unit_1_q4 {NF : Nat} {v : Nat → Int32} {f : Nat → Nat → Int32} {v19 : Nat → Int32} {f20 : Nat → Nat → Int32} (h0 : ¬ ((v 2) = 2)) (h1 : ((v 2) < 116)) (h2 : ¬ ((v 2) = 40)) (h3 : gsX_X6_refuse_1 NF v f = (0, v19, f20)) : gsX_X6_unit_1 NF v f = (0, v19, f20) := by
  simp only [gsX_X6_unit_1, stk_eq, if_neg h0, if_pos h1, if_neg h2, h3, ite11, ite01, if_true, if_false]
theorem gsX_X6_unit_1_q5 {NF : Nat} {v : Nat → Int32} {f : Nat → Nat → Int32} {t23 : Int32} {v26 : Nat → Int32} {f27 : Nat → Nat → Int32} {v30 : Nat → Int32} {f31 : Nat → Nat → Int32} {v35 : Nat → Int32} {f36 : Nat → Nat → Int32} (h0 : ¬ ((v 2) = 2)) (h1 : ((v 2) < 116)) (h2 : ((v 2) = 40)) (h3 : ((v 17) < 30)) (h4 : t23 = (v 17) + 1) (h5 : gsX_X9_advance_1 NF (upd v 17 t23) f = (v26, f27)) (h6 : gsX_X6_expression_7 NF v26 f27 = (1, v30, f31)) (h8 : gsX_X6_taken_1 NF 41 v30 f31 = (1, v35, f36)) : gsX_X6_unit_1 NF v f = (1, v35, f36) := by
  subst h4
  simp only [gsX_X6_unit_1, stk_eq, if_neg h0, if_pos h1, if_pos h2, if_pos h3, h5, h6, h8, ite11, ite01, if_true, if_false]
theorem gsX_X6_unit_1_q6 {NF : Nat} {v : Nat → Int32} {f : Nat → Nat → Int32} {t23 : Int32} {v26 : Nat → Int32} {f27 : Nat → Nat → Int32} {v30 : Nat → Int32} {f31 : Nat → Nat → Int32} {v35 : Nat → Int32} {f36 : Nat → Nat → Int32} (h0 : ¬ ((v 2) = 2)) (h1 : ((v 2) < 116)) (h2 : ((v 2) = 40)) (h3 : ((v 17) < 30)) (h4 : t23 = (v 17) + 1) (h5 : gsX_X9_advance_1 NF (upd v 17 t23) f = (v26, f27)) (h6 : gsX_X6_expression_7 NF v26 f27 = (1, v30, f31)) (h8 : gsX_X6_taken_1 NF 41 v30 f31 = (0, v35, f36)) : gsX_X6_unit_1 NF v f = (0, v35, f36) := by
  subst h4
  simp only [gsX_X6_unit_1, stk_eq, if_neg h0, if_pos h1, if_pos h2, if_pos h3, h5, h6, h8, ite11, ite01, if_true, if_false]
theorem gsX_X6_unit_1_q7 {NF : Nat} {v : Nat → Int32} {f : Nat → Nat → Int32} {t23 : Int32} {v26 : Nat → Int32} {f27 : Nat → Nat → Int32} {v30 : Nat → Int32} {f31 : Nat → Nat → Int32} (h0 : ¬ ((v 2) = 2)) (h1 : ((v 2) < 116)) (h2 : ((v 2) = 40)) (h3 : ((v 17) < 30)) (h4 : t23 = (v 17) + 1) (h5 : gsX_X9_advance_1 NF (upd v 17 t23) f = (v26, f27)) (h6 : gsX_X6_expression_7 NF v26 f27 = (0, v30, f31)) : gsX_X6_unit_1 NF v f = (0, v30, f31) := by
  subst h4
  simp only [gsX_X6_unit_1, stk_eq, if_neg h0, if_pos h1, if_pos h2, if_pos h3, h5, h6, ite11, ite01, if_true, if_false]
theorem gsX_X6_unit_1_q8 {NF : Nat} {v : Nat → Int32} {f : Nat → Nat → Int32} {v40 : Nat → Int32} {f41 : Nat → Nat → Int32} (h0 : ¬ ((v 2) = 2)) (h1 : ((v 2) < 116)) (h2 : ((v 2) = 40)) (h3 : ¬ ((v 17) < 30)) (h4 : gsX_X6_refuse_1 NF v f = (1, v40, f41)) : gsX_X6_unit_1 NF v f = (1, v40, f41) := by
  simp only [gsX_X6_unit_1, stk_eq, if_neg h0, if_pos h1, if_pos h2, if_neg h3, h4, ite11, ite01, if_true, if_false]
theorem gsX_X6_unit_1_q9 {NF : Nat} {v : Nat → Int32} {f : Nat → Nat → Int32} {v40 : Nat → Int32} {f41 : Nat → Nat → Int32} (h0 : ¬ ((v 2) = 2)) (h1 : ((v 2) < 116)) (h2 : ((v 2) = 40)) (h3 : ¬ ((v 17) < 30)) (h4 : gsX_X6_refuse_1 NF v f = (0, v40, f41)) : gsX_X6_unit_1 NF v f = (0, v40, f41) := by
  simp only [gsX_X6_unit_1, stk_eq, if_neg h0, if_pos h1, if_pos h2, if_neg h3, h4, ite11, ite01, if_true, if_false]
theorem gsX_X6_unit_1_q10 {NF : Nat} {v : Nat → Int32} {f : Nat → Nat → Int32} {v47 : Nat → Int32} {f48 : Nat → Nat → Int32} (h0 : ¬ ((v 2) = 2)) (h1 : ¬ ((v 2) < 116)) (h2 : (121 < (v 2))) (h3 : ¬ ((v 2) = 40)) (h4 : gsX_X6_refuse_1 NF v f = (1, v47, f48)) : gsX_X6_unit_1 NF v f = (1, v47, f48) := by
  simp only [gsX_X6_unit_1, stk_eq, if_neg h0, if_neg h1, if_pos h2, if_neg h3, h4, ite11, ite01, if_true, if_false]
theorem gsX_X6_unit_1_q11 {NF : Nat} {v : Nat → Int32} {f : Nat → Nat → Int32} {v47 : Nat → Int32} {f48 : Nat → Nat → Int32} (h0 : ¬ ((v 2) = 2)) (h1 : ¬ ((v 2) < 116)) (h2 : (121 < (v 2))) (h3 : ¬ ((v 2) = 40)) (h4 : gsX_X6_refuse_1 NF v f = (0, v47, f48)) : gsX_X6_unit_1 NF v f = (0, v47, f48) := by
  simp only [gsX_X6_unit_1, stk_eq, if_neg h0, if_neg h1, if_pos h2, if_neg h3, h4, ite11, ite01, if_true, if_false]
theorem gsX_X6_unit_1_q12 {NF : Nat} {v : Nat → Int32} {f : Nat → Nat → Int32} {t51 : Int32} {v54 : Nat → Int32} {f55 : Nat → Nat → Int32} {v58 : Nat → Int32} {f59 : Nat → Nat → Int32} {v63 : Nat → Int32} {f64 : Nat → Nat → Int32} (h0 : ¬ ((v 2) = 2)) (h1 : ¬ ((v 2) < 116)) (h2 : (121 < (v 2))) (h3 : ((v 2) = 40)) (h4 : ((v 17) < 30)) (h5 : t51 = (v 17) + 1) (h6 : gsX_X9_advance_1 NF (upd v 17 t51) f = (v54, f55)) (h7 : gsX_X6_expression_7 NF v54 f55 = (1, v58, f59)) (h9 : gsX_X6_taken_1 NF 41 v58 f59 = (1, v63, f64)) : gsX_X6_unit_1 NF v f = (1, v63, f64) := by
  subst h5
  simp only [gsX_X6_unit_1, stk_eq, if_neg h0, if_neg h1, if_pos h2, if_pos h3, if_pos h4, h6, h7, h9, ite11, ite01, if_true, if_false]
theorem gsX_X6_unit_1_q13 {NF : Nat} {v : Nat → Int32} {f : Nat → Nat → Int32} {t51 : Int32} {v54 : Nat → Int32} {f55 : Nat → Nat → Int32} {v58 : Nat → Int32} {f59 : Nat → Nat → Int32} {v63 : Nat → Int32} {f64 : Nat → Nat → Int32} (h0 : ¬ ((v 2) = 2)) (h1 : ¬ ((v 2) < 116)) (h2 : (121 < (v 2))) (h3 : ((v 2) = 40)) (h4 : ((v 17) < 30)) (h5 : t51 = (v 17) + 1) (h6 : gsX_X9_advance_1 NF (upd v 17 t51) f = (v54, f55)) (h7 : gsX_X6_expression_7 NF v54 f55 = (1, v58, f59)) (h9 : gsX_X6_taken_1 NF 41 v58 f59 = (0, v63, f64)) : gsX_X6_unit_1 NF v f = (0, v63, f64) := by
  subst h5
  simp only [gsX_X6_unit_1, stk_eq, if_neg h0, if_neg h1, if_pos h2, if_pos h3, if_pos h4, h6, h7, h9, ite11, ite01, if_true, if_false]
theorem gsX_X6_unit_1_q14 {NF : Nat} {v : Nat → Int32} {f : Nat → Nat → Int32} {t51 : Int32} {v54 : Nat → Int32} {f55 : Nat → Nat → Int32} {v58 : Nat → Int32} {f59 : Nat → Nat → Int32} (h0 : ¬ ((v 2) = 2)) (h1 : ¬ ((v 2) < 116)) (h2 : (121 < (v 2))) (h3 : ((v 2) = 40)) (h4 : ((v 17) < 30)) (h5 : t51 = (v 17) + 1) (h6 : gsX_X9_advance_1 NF (upd v 17 t51) f = (v54, f55)) (h7 : gsX_X6_expression_7 NF v54 f55 = (0, v58, f59)) : gsX_X6_unit_1 NF v f = (0, v58, f59) := by
  subst h5
  simp only [gsX_X6_unit_1, stk_eq, if_neg h0, if_neg h1, if_pos h2, if_pos h3, if_pos h4, h6, h7, ite11, ite01, if_true, if_false]
theorem gsX_X6_unit_1_q15 {NF : Nat} {v : Nat → Int32} {f : Nat → Nat → Int32} {v68 : Nat → Int32} {f69 : Nat → Nat → Int32} (h0 : ¬ ((v 2) = 2)) (h1 : ¬ ((v 2) < 116)) (h2 : (121 < (v 2))) (h3 : ((v 2) = 40)) (h4 : ¬ ((v 17) < 30)) (h5 : gsX_X6_refuse_1 NF v f = (1, v68, f69)) : gsX_X6_unit_1 NF v f = (1, v68, f69) := by
  simp only [gsX_X6_unit_1, stk_eq, if_neg h0, if_neg h1, if_pos h2, if_pos h3, if_neg h4, h5, ite11, ite01, if_true, if_false]
theorem gsX_X6_unit_1_q16 {NF : Nat} {v : Nat → Int32} {f : Nat → Nat → Int32} {v68 : Nat → Int32} {f69 : Nat → Nat → Int32} (h0 : ¬ ((v 2) = 2)) (h1 : ¬ ((v 2) < 116)) (h2 : (121 < (v 2))) (h3 : ((v 2) = 40)) (h4 : ¬ ((v 17) < 30)) (h5 : gsX_X6_refuse_1 NF v f = (0, v68, f69)) : gsX_X6_unit_1 NF v f = (0, v68, f69) := by
  simp only [gsX_X6_unit_1, stk_eq, if_neg h0, if_neg h1, if_pos h2, if_pos h3, if_neg h4, h5, ite11, ite01, if_true, if_false]
theorem gsX_X6_unit_1_q17 {NF : Nat} {v : Nat → Int32} {f : Nat → Nat → Int32} {v73 : Nat → Int32} {f74 : Nat → Nat → Int32} {t75 : Int32} {v77 : Nat → Int32} {f78 : Nat → Nat → Int32} (h0 : ¬ ((v 2) = 2)) (h1 : ¬ ((v 2) < 116)) (h2 : ¬ (121 < (v 2))) (h3 : ((v 17) < 30)) (h4 : gsX_X4_add_1 NF (v 2) (v 5) v f = (v73, f74)) (h5 : t75 = (v73 17) + 1) (h6 : gsX_X9_advance_1 NF (upd v73 17 t75) f74 = (v77, f78)) : gsX_X6_unit_1 NF v f = (1, v77, f78) := by
  subst h5
  simp only [gsX_X6_unit_1, stk_eq, if_neg h0, if_neg h1, if_neg h2, if_pos h3, h4, h6]
theorem gsX_X6_unit_1_q18 {NF : Nat} {v : Nat → Int32} {f : Nat → Nat → Int32} {v81 : Nat → Int32} {f82 : Nat → Nat → Int32} (h0 : ¬ ((v 2) = 2)) (h1 : ¬ ((v 2) < 116)) (h2 : ¬ (121 < (v 2))) (h3 : ¬ ((v 17) < 30)) (h4 : gsX_X6_refuse_1 NF v f = (1, v81, f82)) : gsX_X6_unit_1 NF v f = (1, v81, f82) := by
  simp only [gsX_X6_unit_1, stk_eq, if_neg h0, if_neg h1, if_neg h2, if_neg h3, h4, ite11, ite01, if_true, if_false]
theorem gsX_X6_unit_1_q19 {NF : Nat} {v : Nat → Int32} {f : Nat → Nat → Int32} {v81 : Nat → Int32} {f82 : Nat → Nat → Int32} (h0 : ¬ ((v 2) = 2)) (h1 : ¬ ((v 2) < 116)) (h2 : ¬ (121 < (v 2))) (h3 : ¬ ((v 17) < 30)) (h4 : gsX_X6_refuse_1 NF v f = (0, v81, f82)) : gsX_X6_unit_1 NF v f = (0, v81, f82) := by
  simp only [gsX_X6_unit_1, stk_eq, if_neg h0, if_neg h1, if_neg h2, if_neg h3, h4, ite11, ite01, if_true, if_false]
def gsX_X6_expression_6 (NF : Nat) (v : Nat → Int32) (f : Nat → Nat → Int32) : Int32 × (Nat → Int32) × (Nat → Nat → Int32) :=
  match gsX_X6_unit_1 NF v f with
  | (r1, v3, f4) =>
    if r1 = 1 then
      (1, v3, f4)
    else
      (0, v3, f4)
theorem gsX_X6_expression_6_q0 {NF : Nat} {v : Nat → Int32} {f : Nat → Nat → Int32} {v3 : Nat → Int32} {f4 : Nat → Nat → Int32} (h0 : gsX_X6_unit_1 NF v f = (1, v3, f4)) : gsX_X6_expression_6 NF v f = (1, v3, f4) := by
  simp only [gsX_X6_expression_6, h0, ite11, ite01, if_true, if_false]
theorem gsX_X6_expression_6_q1 {NF : Nat} {v : Nat → Int32} {f : Nat → Nat → Int32} {v3 : Nat → Int32} {f4 : Nat → Nat → Int32} (h0 : gsX_X6_unit_1 NF v f = (0, v3, f4)) : gsX_X6_expression_6 NF v f = (0, v3, f4) := by
  simp only [gsX_X6_expression_6, h0, ite11, ite01, if_true, if_false]
def gsX_X6_expression_5_L6 (NF : Nat) : Nat → (Int32) → (Nat → Int32) → (Nat → Nat → Int32) → Int32 × (Nat → Int32) × (Nat → Nat → Int32)
  | 0, _, _, _ => (0, (fun _ => 0), (fun _ _ => 0))
  | n6 + 1, l4_6, v6, f6 =>
    if 1600 ≤ l4_6 then
      (1, v6, f6)
    else
      if gsX_X6_joins_1 NF 4 (v6 2) v6 f6 = 1 then
        match gsX_X9_advance_1 NF v6 f6 with
        | (v12, f13) =>
          match gsX_X6_expression_6 NF v12 f13 with
          | (r14, v16, f17) =>
            if r14 = 1 then
              match gsX_X4_add_1 NF (v6 2) 0 v16 f17 with
              | (v20, f21) =>
                let t22 : Int32 := l4_6 + 1
                gsX_X6_expression_5_L6 NF n6 t22 v20 f21
            else
              (0, v16, f17)
      else
        (1, v6, f6)
def gsX_X6_expression_5 (NF : Nat) (v : Nat → Int32) (f : Nat → Nat → Int32) : Int32 × (Nat → Int32) × (Nat → Nat → Int32) :=
  match gsX_X6_expression_6 NF v f with
  | (r1, v3, f4) =>
    if r1 = 1 then
      gsX_X6_expression_5_L6 NF (4294967296 + NF) 0 v3 f4
    else
      (0, v3, f4)
theorem gsX_X6_expression_5_q4 {NF : Nat} {v : Nat → Int32} {f : Nat → Nat → Int32} {v3 : Nat → Int32} {f4 : Nat → Nat → Int32} (h0 : gsX_X6_expression_6 NF v f = (1, v3, f4)) : gsX_X6_expression_5 NF v f = gsX_X6_expression_5_L6 NF (4294967296 + NF) 0 v3 f4 := by
  simp only [gsX_X6_expression_5, h0, ite11, ite01, if_true, if_false]
theorem gsX_X6_expression_5_q5 {NF : Nat} {v : Nat → Int32} {f : Nat → Nat → Int32} {v3 : Nat → Int32} {f4 : Nat → Nat → Int32} (h0 : gsX_X6_expression_6 NF v f = (0, v3, f4)) : gsX_X6_expression_5 NF v f = (0, v3, f4) := by
  simp only [gsX_X6_expression_5, h0, ite11, ite01, if_true, if_false]
theorem gsX_X6_expression_5_q0 {NF : Nat} {n6 : Nat} {l4_6 : Int32} {v6 : Nat → Int32} {f6 : Nat → Nat → Int32} (h0 : (1600 ≤ l4_6)) : gsX_X6_expression_5_L6 NF (n6 + 1) l4_6 v6 f6 = (1, v6, f6) := by
  simp only [gsX_X6_expression_5_L6, if_pos h0]
theorem gsX_X6_expression_5_q1 {NF : Nat} {n6 : Nat} {l4_6 : Int32} {v6 : Nat → Int32} {f6 : Nat → Nat → Int32} {v12 : Nat → Int32} {f13 : Nat → Nat → Int32} {v16 : Nat → Int32} {f17 : Nat → Nat → Int32} {v20 : Nat → Int32} {f21 : Nat → Nat → Int32} {t22 : Int32} (h0 : ¬ (1600 ≤ l4_6)) (h1 : gsX_X6_joins_1 NF 4 (v6 2) v6 f6 = 1) (h2 : gsX_X9_advance_1 NF v6 f6 = (v12, f13)) (h3 : gsX_X6_expression_6 NF v12 f13 = (1, v16, f17)) (h5 : gsX_X4_add_1 NF (v6 2) 0 v16 f17 = (v20, f21)) (h6 : t22 = l4_6 + 1) : gsX_X6_expression_5_L6 NF (n6 + 1) l4_6 v6 f6 = gsX_X6_expression_5_L6 NF n6 t22 v20 f21 := by
  subst h6
  simp only [gsX_X6_expression_5_L6, if_neg h0, h1, h2, h3, h5, ite11, ite01, if_true, if_false]
theorem gsX_X6_expression_5_q2 {NF : Nat} {n6 : Nat} {l4_6 : Int32} {v6 : Nat → Int32} {f6 : Nat → Nat → Int32} {v12 : Nat → Int32} {f13 : Nat → Nat → Int32} {v16 : Nat → Int32} {f17 : Nat → Nat → Int32} (h0 : ¬ (1600 ≤ l4_6)) (h1 : gsX_X6_joins_1 NF 4 (v6 2) v6 f6 = 1) (h2 : gsX_X9_advance_1 NF v6 f6 = (v12, f13)) (h3 : gsX_X6_expression_6 NF v12 f13 = (0, v16, f17)) : gsX_X6_expression_5_L6 NF (n6 + 1) l4_6 v6 f6 = (0, v16, f17) := by
  simp only [gsX_X6_expression_5_L6, if_neg h0, h1, h2, h3, ite11, ite01, if_true, if_false]
theorem gsX_X6_expression_5_q3 {NF : Nat} {n6 : Nat} {l4_6 : Int32} {v6 : Nat → Int32} {f6 : Nat → Nat → Int32} (h0 : ¬ (1600 ≤ l4_6)) (h1 : gsX_X6_joins_1 NF 4 (v6 2) v6 f6 = 0) : gsX_X6_expression_5_L6 NF (n6 + 1) l4_6 v6 f6 = (1, v6, f6) := by
  simp only [gsX_X6_expression_5_L6, if_neg h0, h1, ite11, ite01, if_true, if_false]
def gsX_X6_expression_4_L6 (NF : Nat) : Nat → (Int32) → (Nat → Int32) → (Nat → Nat → Int32) → Int32 × (Nat → Int32) × (Nat → Nat → Int32)
  | 0, _, _, _ => (0, (fun _ => 0), (fun _ _ => 0))
  | n6 + 1, l4_6, v6, f6 =>
    if 1600 ≤ l4_6 then
      (1, v6, f6)
    else
      if gsX_X6_joins_1 NF 3 (v6 2) v6 f6 = 1 then
        match gsX_X9_advance_1 NF v6 f6 with
        | (v12, f13) =>
          match gsX_X6_expression_5 NF v12 f13 with
          | (r14, v16, f17) =>
            if r14 = 1 then
              match gsX_X4_add_1 NF (v6 2) 0 v16 f17 with
              | (v20, f21) =>
                let t22 : Int32 := l4_6 + 1
                gsX_X6_expression_4_L6 NF n6 t22 v20 f21
            else
              (0, v16, f17)
      else
        (1, v6, f6)
def gsX_X6_expression_4 (NF : Nat) (v : Nat → Int32) (f : Nat → Nat → Int32) : Int32 × (Nat → Int32) × (Nat → Nat → Int32) :=
  match gsX_X6_expression_5 NF v f with
  | (r1, v3, f4) =>
    if r1 = 1 then
      gsX_X6_expression_4_L6 NF (4294967296 + NF) 0 v3 f4
    else
      (0, v3, f4)
theorem gsX_X6_expression_4_q4 {NF : Nat} {v : Nat → Int32} {f : Nat → Nat → Int32} {v3 : Nat → Int32} {f4 : Nat → Nat → Int32} (h0 : gsX_X6_expression_5 NF v f = (1, v3, f4)) : gsX_X6_expression_4 NF v f = gsX_X6_expression_4_L6 NF (4294967296 + NF) 0 v3 f4 := by
  simp only [gsX_X6_expression_4, h0, ite11, ite01, if_true, if_false]
theorem gsX_X6_expression_4_q5 {NF : Nat} {v : Nat → Int32} {f : Nat → Nat → Int32} {v3 : Nat → Int32} {f4 : Nat → Nat → Int32} (h0 : gsX_X6_expression_5 NF v f = (0, v3, f4)) : gsX_X6_expression_4 NF v f = (0, v3, f4) := by
  simp only [gsX_X6_expression_4, h0, ite11, ite01, if_true, if_false]
theorem gsX_X6_expression_4_q0 {NF : Nat} {n6 : Nat} {l4_6 : Int32} {v6 : Nat → Int32} {f6 : Nat → Nat → Int32} (h0 : (1600 ≤ l4_6)) : gsX_X6_expression_4_L6 NF (n6 + 1) l4_6 v6 f6 = (1, v6, f6) := by
  simp only [gsX_X6_expression_4_L6, if_pos h0]
theorem gsX_X6_expression_4_q1 {NF : Nat} {n6 : Nat} {l4_6 : Int32} {v6 : Nat → Int32} {f6 : Nat → Nat → Int32} {v12 : Nat → Int32} {f13 : Nat → Nat → Int32} {v16 : Nat → Int32} {f17 : Nat → Nat → Int32} {v20 : Nat → Int32} {f21 : Nat → Nat → Int32} {t22 : Int32} (h0 : ¬ (1600 ≤ l4_6)) (h1 : gsX_X6_joins_1 NF 3 (v6 2) v6 f6 = 1) (h2 : gsX_X9_advance_1 NF v6 f6 = (v12, f13)) (h3 : gsX_X6_expression_5 NF v12 f13 = (1, v16, f17)) (h5 : gsX_X4_add_1 NF (v6 2) 0 v16 f17 = (v20, f21)) (h6 : t22 = l4_6 + 1) : gsX_X6_expression_4_L6 NF (n6 + 1) l4_6 v6 f6 = gsX_X6_expression_4_L6 NF n6 t22 v20 f21 := by
  subst h6
  simp only [gsX_X6_expression_4_L6, if_neg h0, h1, h2, h3, h5, ite11, ite01, if_true, if_false]
theorem gsX_X6_expression_4_q2 {NF : Nat} {n6 : Nat} {l4_6 : Int32} {v6 : Nat → Int32} {f6 : Nat → Nat → Int32} {v12 : Nat → Int32} {f13 : Nat → Nat → Int32} {v16 : Nat → Int32} {f17 : Nat → Nat → Int32} (h0 : ¬ (1600 ≤ l4_6)) (h1 : gsX_X6_joins_1 NF 3 (v6 2) v6 f6 = 1) (h2 : gsX_X9_advance_1 NF v6 f6 = (v12, f13)) (h3 : gsX_X6_expression_5 NF v12 f13 = (0, v16, f17)) : gsX_X6_expression_4_L6 NF (n6 + 1) l4_6 v6 f6 = (0, v16, f17) := by
  simp only [gsX_X6_expression_4_L6, if_neg h0, h1, h2, h3, ite11, ite01, if_true, if_false]
theorem gsX_X6_expression_4_q3 {NF : Nat} {n6 : Nat} {l4_6 : Int32} {v6 : Nat → Int32} {f6 : Nat → Nat → Int32} (h0 : ¬ (1600 ≤ l4_6)) (h1 : gsX_X6_joins_1 NF 3 (v6 2) v6 f6 = 0) : gsX_X6_expression_4_L6 NF (n6 + 1) l4_6 v6 f6 = (1, v6, f6) := by
  simp only [gsX_X6_expression_4_L6, if_neg h0, h1, ite11, ite01, if_true, if_false]
def gsX_X6_negation_8 (NF : Nat) (v : Nat → Int32) (f : Nat → Nat → Int32) : Int32 × (Nat → Int32) × (Nat → Nat → Int32) :=
  match gsX_X9_advance_1 NF v f with
  | (v2, f3) =>
    match stk NF (gsX_X6_expression_9 NF v2 f3) with
    | (r4, v6, f7) =>
      if r4 = 1 then
        match gsX_X4_add_1 NF 115 0 v6 f7 with
        | (v10, f11) =>
          (1, v10, f11)
      else
        (0, v6, f7)
theorem gsX_X6_negation_8_q0 {NF : Nat} {v : Nat → Int32} {f : Nat → Nat → Int32} {v2 : Nat → Int32} {f3 : Nat → Nat → Int32} {v6 : Nat → Int32} {f7 : Nat → Nat → Int32} {v10 : Nat → Int32} {f11 : Nat → Nat → Int32} (h0 : gsX_X9_advance_1 NF v f = (v2, f3)) (h1 : gsX_X6_expression_9 NF v2 f3 = (1, v6, f7)) (h3 : gsX_X4_add_1 NF 115 0 v6 f7 = (v10, f11)) : gsX_X6_negation_8 NF v f = (1, v10, f11) := by
  simp only [gsX_X6_negation_8, stk_eq, h0, h1, h3, ite11, ite01, if_true, if_false]
theorem gsX_X6_negation_8_q1 {NF : Nat} {v : Nat → Int32} {f : Nat → Nat → Int32} {v2 : Nat → Int32} {f3 : Nat → Nat → Int32} {v6 : Nat → Int32} {f7 : Nat → Nat → Int32} (h0 : gsX_X9_advance_1 NF v f = (v2, f3)) (h1 : gsX_X6_expression_9 NF v2 f3 = (0, v6, f7)) : gsX_X6_negation_8 NF v f = (0, v6, f7) := by
  simp only [gsX_X6_negation_8, stk_eq, h0, h1, ite11, ite01, if_true, if_false]
def gsX_X6_expression_3_L7 (NF : Nat) : Nat → (Int32) → (Nat → Int32) → (Nat → Nat → Int32) → Int32 × (Nat → Int32) × (Nat → Nat → Int32)
  | 0, _, _, _ => (0, (fun _ => 0), (fun _ _ => 0))
  | n7 + 1, l4_7, v7, f7 =>
    if 1 ≤ l4_7 then
      (1, v7, f7)
    else
      if gsX_X6_joins_1 NF 2 (v7 2) v7 f7 = 1 then
        match gsX_X9_advance_1 NF v7 f7 with
        | (v13, f14) =>
          match gsX_X6_expression_4 NF v13 f14 with
          | (r15, v17, f18) =>
            if r15 = 1 then
              match gsX_X4_add_1 NF (v7 2) 0 v17 f18 with
              | (v21, f22) =>
                let t23 : Int32 := l4_7 + 1
                gsX_X6_expression_3_L7 NF n7 t23 v21 f22
            else
              (0, v17, f18)
      else
        (1, v7, f7)
def gsX_X6_expression_3 (NF : Nat) (v : Nat → Int32) (f : Nat → Nat → Int32) : Int32 × (Nat → Int32) × (Nat → Nat → Int32) :=
  if (v 2) = 115 then
    match gsX_X6_negation_8 NF v f with
    | (r26, v28, f29) =>
      if r26 = 1 then
        (1, v28, f29)
      else
        (0, v28, f29)
  else
    match gsX_X6_expression_4 NF v f with
    | (r2, v4, f5) =>
      if r2 = 1 then
        gsX_X6_expression_3_L7 NF (4294967296 + NF) 0 v4 f5
      else
        (0, v4, f5)
theorem gsX_X6_expression_3_q4 {NF : Nat} {v : Nat → Int32} {f : Nat → Nat → Int32} {v4 : Nat → Int32} {f5 : Nat → Nat → Int32} (h0 : ¬ ((v 2) = 115)) (h1 : gsX_X6_expression_4 NF v f = (1, v4, f5)) : gsX_X6_expression_3 NF v f = gsX_X6_expression_3_L7 NF (4294967296 + NF) 0 v4 f5 := by
  simp only [gsX_X6_expression_3, if_neg h0, h1, ite11, ite01, if_true, if_false]
theorem gsX_X6_expression_3_q5 {NF : Nat} {v : Nat → Int32} {f : Nat → Nat → Int32} {v4 : Nat → Int32} {f5 : Nat → Nat → Int32} (h0 : ¬ ((v 2) = 115)) (h1 : gsX_X6_expression_4 NF v f = (0, v4, f5)) : gsX_X6_expression_3 NF v f = (0, v4, f5) := by
  simp only [gsX_X6_expression_3, if_neg h0, h1, ite11, ite01, if_true, if_false]
theorem gsX_X6_expression_3_q6 {NF : Nat} {v : Nat → Int32} {f : Nat → Nat → Int32} {v28 : Nat → Int32} {f29 : Nat → Nat → Int32} (h0 : ((v 2) = 115)) (h1 : gsX_X6_negation_8 NF v f = (1, v28, f29)) : gsX_X6_expression_3 NF v f = (1, v28, f29) := by
  simp only [gsX_X6_expression_3, if_pos h0, h1, ite11, ite01, if_true, if_false]
theorem gsX_X6_expression_3_q7 {NF : Nat} {v : Nat → Int32} {f : Nat → Nat → Int32} {v28 : Nat → Int32} {f29 : Nat → Nat → Int32} (h0 : ((v 2) = 115)) (h1 : gsX_X6_negation_8 NF v f = (0, v28, f29)) : gsX_X6_expression_3 NF v f = (0, v28, f29) := by
  simp only [gsX_X6_expression_3, if_pos h0, h1, ite11, ite01, if_true, if_false]
theorem gsX_X6_expression_3_q0 {NF : Nat} {n7 : Nat} {l4_7 : Int32} {v7 : Nat → Int32} {f7 : Nat → Nat → Int32} (h0 : (1 ≤ l4_7)) : gsX_X6_expression_3_L7 NF (n7 + 1) l4_7 v7 f7 = (1, v7, f7) := by
  simp only [gsX_X6_expression_3_L7, if_pos h0]
theorem gsX_X6_expression_3_q1 {NF : Nat} {n7 : Nat} {l4_7 : Int32} {v7 : Nat → Int32} {f7 : Nat → Nat → Int32} {v13 : Nat → Int32} {f14 : Nat → Nat → Int32} {v17 : Nat → Int32} {f18 : Nat → Nat → Int32} {v21 : Nat → Int32} {f22 : Nat → Nat → Int32} {t23 : Int32} (h0 : ¬ (1 ≤ l4_7)) (h1 : gsX_X6_joins_1 NF 2 (v7 2) v7 f7 = 1) (h2 : gsX_X9_advance_1 NF v7 f7 = (v13, f14)) (h3 : gsX_X6_expression_4 NF v13 f14 = (1, v17, f18)) (h5 : gsX_X4_add_1 NF (v7 2) 0 v17 f18 = (v21, f22)) (h6 : t23 = l4_7 + 1) : gsX_X6_expression_3_L7 NF (n7 + 1) l4_7 v7 f7 = gsX_X6_expression_3_L7 NF n7 t23 v21 f22 := by
  subst h6
  simp only [gsX_X6_expression_3_L7, if_neg h0, h1, h2, h3, h5, ite11, ite01, if_true, if_false]
theorem gsX_X6_expression_3_q2 {NF : Nat} {n7 : Nat} {l4_7 : Int32} {v7 : Nat → Int32} {f7 : Nat → Nat → Int32} {v13 : Nat → Int32} {f14 : Nat → Nat → Int32} {v17 : Nat → Int32} {f18 : Nat → Nat → Int32} (h0 : ¬ (1 ≤ l4_7)) (h1 : gsX_X6_joins_1 NF 2 (v7 2) v7 f7 = 1) (h2 : gsX_X9_advance_1 NF v7 f7 = (v13, f14)) (h3 : gsX_X6_expression_4 NF v13 f14 = (0, v17, f18)) : gsX_X6_expression_3_L7 NF (n7 + 1) l4_7 v7 f7 = (0, v17, f18) := by
  simp only [gsX_X6_expression_3_L7, if_neg h0, h1, h2, h3, ite11, ite01, if_true, if_false]
theorem gsX_X6_expression_3_q3 {NF : Nat} {n7 : Nat} {l4_7 : Int32} {v7 : Nat → Int32} {f7 : Nat → Nat → Int32} (h0 : ¬ (1 ≤ l4_7)) (h1 : gsX_X6_joins_1 NF 2 (v7 2) v7 f7 = 0) : gsX_X6_expression_3_L7 NF (n7 + 1) l4_7 v7 f7 = (1, v7, f7) := by
  simp only [gsX_X6_expression_3_L7, if_neg h0, h1, ite11, ite01, if_true, if_false]
def gsX_X6_expression_2_L6 (NF : Nat) : Nat → (Int32) → (Nat → Int32) → (Nat → Nat → Int32) → Int32 × (Nat → Int32) × (Nat → Nat → Int32)
  | 0, _, _, _ => (0, (fun _ => 0), (fun _ _ => 0))
  | n6 + 1, l4_6, v6, f6 =>
    if 1600 ≤ l4_6 then
      (1, v6, f6)
    else
      if gsX_X6_joins_1 NF 1 (v6 2) v6 f6 = 1 then
        match gsX_X9_advance_1 NF v6 f6 with
        | (v12, f13) =>
          match gsX_X6_expression_3 NF v12 f13 with
          | (r14, v16, f17) =>
            if r14 = 1 then
              match gsX_X4_add_1 NF (v6 2) 0 v16 f17 with
              | (v20, f21) =>
                let t22 : Int32 := l4_6 + 1
                gsX_X6_expression_2_L6 NF n6 t22 v20 f21
            else
              (0, v16, f17)
      else
        (1, v6, f6)
def gsX_X6_expression_2 (NF : Nat) (v : Nat → Int32) (f : Nat → Nat → Int32) : Int32 × (Nat → Int32) × (Nat → Nat → Int32) :=
  match gsX_X6_expression_3 NF v f with
  | (r1, v3, f4) =>
    if r1 = 1 then
      gsX_X6_expression_2_L6 NF (4294967296 + NF) 0 v3 f4
    else
      (0, v3, f4)
theorem gsX_X6_expression_2_q4 {NF : Nat} {v : Nat → Int32} {f : Nat → Nat → Int32} {v3 : Nat → Int32} {f4 : Nat → Nat → Int32} (h0 : gsX_X6_expression_3 NF v f = (1, v3, f4)) : gsX_X6_expression_2 NF v f = gsX_X6_expression_2_L6 NF (4294967296 + NF) 0 v3 f4 := by
  simp only [gsX_X6_expression_2, h0, ite11, ite01, if_true, if_false]
theorem gsX_X6_expression_2_q5 {NF : Nat} {v : Nat → Int32} {f : Nat → Nat → Int32} {v3 : Nat → Int32} {f4 : Nat → Nat → Int32} (h0 : gsX_X6_expression_3 NF v f = (0, v3, f4)) : gsX_X6_expression_2 NF v f = (0, v3, f4) := by
  simp only [gsX_X6_expression_2, h0, ite11, ite01, if_true, if_false]
theorem gsX_X6_expression_2_q0 {NF : Nat} {n6 : Nat} {l4_6 : Int32} {v6 : Nat → Int32} {f6 : Nat → Nat → Int32} (h0 : (1600 ≤ l4_6)) : gsX_X6_expression_2_L6 NF (n6 + 1) l4_6 v6 f6 = (1, v6, f6) := by
  simp only [gsX_X6_expression_2_L6, if_pos h0]
theorem gsX_X6_expression_2_q1 {NF : Nat} {n6 : Nat} {l4_6 : Int32} {v6 : Nat → Int32} {f6 : Nat → Nat → Int32} {v12 : Nat → Int32} {f13 : Nat → Nat → Int32} {v16 : Nat → Int32} {f17 : Nat → Nat → Int32} {v20 : Nat → Int32} {f21 : Nat → Nat → Int32} {t22 : Int32} (h0 : ¬ (1600 ≤ l4_6)) (h1 : gsX_X6_joins_1 NF 1 (v6 2) v6 f6 = 1) (h2 : gsX_X9_advance_1 NF v6 f6 = (v12, f13)) (h3 : gsX_X6_expression_3 NF v12 f13 = (1, v16, f17)) (h5 : gsX_X4_add_1 NF (v6 2) 0 v16 f17 = (v20, f21)) (h6 : t22 = l4_6 + 1) : gsX_X6_expression_2_L6 NF (n6 + 1) l4_6 v6 f6 = gsX_X6_expression_2_L6 NF n6 t22 v20 f21 := by
  subst h6
  simp only [gsX_X6_expression_2_L6, if_neg h0, h1, h2, h3, h5, ite11, ite01, if_true, if_false]
theorem gsX_X6_expression_2_q2 {NF : Nat} {n6 : Nat} {l4_6 : Int32} {v6 : Nat → Int32} {f6 : Nat → Nat → Int32} {v12 : Nat → Int32} {f13 : Nat → Nat → Int32} {v16 : Nat → Int32} {f17 : Nat → Nat → Int32} (h0 : ¬ (1600 ≤ l4_6)) (h1 : gsX_X6_joins_1 NF 1 (v6 2) v6 f6 = 1) (h2 : gsX_X9_advance_1 NF v6 f6 = (v12, f13)) (h3 : gsX_X6_expression_3 NF v12 f13 = (0, v16, f17)) : gsX_X6_expression_2_L6 NF (n6 + 1) l4_6 v6 f6 = (0, v16, f17) := by
  simp only [gsX_X6_expression_2_L6, if_neg h0, h1, h2, h3, ite11, ite01, if_true, if_false]
theorem gsX_X6_expression_2_q3 {NF : Nat} {n6 : Nat} {l4_6 : Int32} {v6 : Nat → Int32} {f6 : Nat → Nat → Int32} (h0 : ¬ (1600 ≤ l4_6)) (h1 : gsX_X6_joins_1 NF 1 (v6 2) v6 f6 = 0) : gsX_X6_expression_2_L6 NF (n6 + 1) l4_6 v6 f6 = (1, v6, f6) := by
  simp only [gsX_X6_expression_2_L6, if_neg h0, h1, ite11, ite01, if_true, if_false]
def gsX_X6_expression_1_L6 (NF : Nat) : Nat → (Int32) → (Nat → Int32) → (Nat → Nat → Int32) → Int32 × (Nat → Int32) × (Nat → Nat → Int32)
  | 0, _, _, _ => (0, (fun _ => 0), (fun _ _ => 0))
  | n6 + 1, l4_6, v6, f6 =>
    if 1600 ≤ l4_6 then
      (1, v6, f6)
    else
      if gsX_X6_joins_1 NF 0 (v6 2) v6 f6 = 1 then
        match gsX_X9_advance_1 NF v6 f6 with
        | (v12, f13) =>
          match gsX_X6_expression_2 NF v12 f13 with
          | (r14, v16, f17) =>
            if r14 = 1 then
              match gsX_X4_add_1 NF (v6 2) 0 v16 f17 with
              | (v20, f21) =>
                let t22 : Int32 := l4_6 + 1
                gsX_X6_expression_1_L6 NF n6 t22 v20 f21
            else
              (0, v16, f17)
      else
        (1, v6, f6)
def gsX_X6_expression_1 (NF : Nat) (v : Nat → Int32) (f : Nat → Nat → Int32) : Int32 × (Nat → Int32) × (Nat → Nat → Int32) :=
  match gsX_X6_expression_2 NF v f with
  | (r1, v3, f4) =>
    if r1 = 1 then
      gsX_X6_expression_1_L6 NF (4294967296 + NF) 0 v3 f4
    else
      (0, v3, f4)
theorem gsX_X6_expression_1_q4 {NF : Nat} {v : Nat → Int32} {f : Nat → Nat → Int32} {v3 : Nat → Int32} {f4 : Nat → Nat → Int32} (h0 : gsX_X6_expression_2 NF v f = (1, v3, f4)) : gsX_X6_expression_1 NF v f = gsX_X6_expression_1_L6 NF (4294967296 + NF) 0 v3 f4 := by
  simp only [gsX_X6_expression_1, h0, ite11, ite01, if_true, if_false]
theorem gsX_X6_expression_1_q5 {NF : Nat} {v : Nat → Int32} {f : Nat → Nat → Int32} {v3 : Nat → Int32} {f4 : Nat → Nat → Int32} (h0 : gsX_X6_expression_2 NF v f = (0, v3, f4)) : gsX_X6_expression_1 NF v f = (0, v3, f4) := by
  simp only [gsX_X6_expression_1, h0, ite11, ite01, if_true, if_false]
theorem gsX_X6_expression_1_q0 {NF : Nat} {n6 : Nat} {l4_6 : Int32} {v6 : Nat → Int32} {f6 : Nat → Nat → Int32} (h0 : (1600 ≤ l4_6)) : gsX_X6_expression_1_L6 NF (n6 + 1) l4_6 v6 f6 = (1, v6, f6) := by
  simp only [gsX_X6_expression_1_L6, if_pos h0]
theorem gsX_X6_expression_1_q1 {NF : Nat} {n6 : Nat} {l4_6 : Int32} {v6 : Nat → Int32} {f6 : Nat → Nat → Int32} {v12 : Nat → Int32} {f13 : Nat → Nat → Int32} {v16 : Nat → Int32} {f17 : Nat → Nat → Int32} {v20 : Nat → Int32} {f21 : Nat → Nat → Int32} {t22 : Int32} (h0 : ¬ (1600 ≤ l4_6)) (h1 : gsX_X6_joins_1 NF 0 (v6 2) v6 f6 = 1) (h2 : gsX_X9_advance_1 NF v6 f6 = (v12, f13)) (h3 : gsX_X6_expression_2 NF v12 f13 = (1, v16, f17)) (h5 : gsX_X4_add_1 NF (v6 2) 0 v16 f17 = (v20, f21)) (h6 : t22 = l4_6 + 1) : gsX_X6_expression_1_L6 NF (n6 + 1) l4_6 v6 f6 = gsX_X6_expression_1_L6 NF n6 t22 v20 f21 := by
  subst h6
  simp only [gsX_X6_expression_1_L6, if_neg h0, h1, h2, h3, h5, ite11, ite01, if_true, if_false]
theorem gsX_X6_expression_1_q2 {NF : Nat} {n6 : Nat} {l4_6 : Int32} {v6 : Nat → Int32} {f6 : Nat → Nat → Int32} {v12 : Nat → Int32} {f13 : Nat → Nat → Int32} {v16 : Nat → Int32} {f17 : Nat → Nat → Int32} (h0 : ¬ (1600 ≤ l4_6)) (h1 : gsX_X6_joins_1 NF 0 (v6 2) v6 f6 = 1) (h2 : gsX_X9_advance_1 NF v6 f6 = (v12, f13)) (h3 : gsX_X6_expression_2 NF v12 f13 = (0, v16, f17)) : gsX_X6_expression_1_L6 NF (n6 + 1) l4_6 v6 f6 = (0, v16, f17) := by
  simp only [gsX_X6_expression_1_L6, if_neg h0, h1, h2, h3, ite11, ite01, if_true, if_false]
theorem gsX_X6_expression_1_q3 {NF : Nat} {n6 : Nat} {l4_6 : Int32} {v6 : Nat → Int32} {f6 : Nat → Nat → Int32} (h0 : ¬ (1600 ≤ l4_6)) (h1 : gsX_X6_joins_1 NF 0 (v6 2) v6 f6 = 0) : gsX_X6_expression_1_L6 NF (n6 + 1) l4_6 v6 f6 = (1, v6, f6) := by
  simp only [gsX_X6_expression_1_L6, if_neg h0, h1, ite11, ite01, if_true, if_false]
def gsX_X7_set_1 (NF : Nat) (p1 : Int32) (p2 : Int32) (v : Nat → Int32) (f : Nat → Nat → Int32) : (Nat → Int32) × (Nat → Nat → Int32) :=
  if p1 = 104 then
    ((upd v 11 p2), f)
  else
    if p1 = 105 then
      ((upd v 12 p2), f)
    else
      if p1 = 106 then
        ((upd v 13 p2), f)
      else
        if p1 = 107 then
          ((upd v 14 p2), f)
        else
          ((upd v 15 p2), f)
theorem gsX_X7_set_1_q0 {NF : Nat} {p1 : Int32} {p2 : Int32} {v : Nat → Int32} {f : Nat → Nat → Int32} (h0 : (p1 = 104)) : gsX_X7_set_1 NF p1 p2 v f = ((upd v 11 p2), f) := by
  simp only [gsX_X7_set_1, if_pos h0]
theorem gsX_X7_set_1_q1 {NF : Nat} {p1 : Int32} {p2 : Int32} {v : Nat → Int32} {f : Nat → Nat → Int32} (h0 : ¬ (p1 = 104)) (h1 : (p1 = 105)) : gsX_X7_set_1 NF p1 p2 v f = ((upd v 12 p2), f) := by
  simp only [gsX_X7_set_1, if_neg h0, if_pos h1]
theorem gsX_X7_set_1_q2 {NF : Nat} {p1 : Int32} {p2 : Int32} {v : Nat → Int32} {f : Nat → Nat → Int32} (h0 : ¬ (p1 = 104)) (h1 : ¬ (p1 = 105)) (h2 : (p1 = 106)) : gsX_X7_set_1 NF p1 p2 v f = ((upd v 13 p2), f) := by
  simp only [gsX_X7_set_1, if_neg h0, if_neg h1, if_pos h2]
theorem gsX_X7_set_1_q3 {NF : Nat} {p1 : Int32} {p2 : Int32} {v : Nat → Int32} {f : Nat → Nat → Int32} (h0 : ¬ (p1 = 104)) (h1 : ¬ (p1 = 105)) (h2 : ¬ (p1 = 106)) (h3 : (p1 = 107)) : gsX_X7_set_1 NF p1 p2 v f = ((upd v 14 p2), f) := by
  simp only [gsX_X7_set_1, if_neg h0, if_neg h1, if_neg h2, if_pos h3]
theorem gsX_X7_set_1_q4 {NF : Nat} {p1 : Int32} {p2 : Int32} {v : Nat → Int32} {f : Nat → Nat → Int32} (h0 : ¬ (p1 = 104)) (h1 : ¬ (p1 = 105)) (h2 : ¬ (p1 = 106)) (h3 : ¬ (p1 = 107)) : gsX_X7_set_1 NF p1 p2 v f = ((upd v 15 p2), f) := by
  simp only [gsX_X7_set_1, if_neg h0, if_neg h1, if_neg h2, if_neg h3]
def gsX_X6_settingLine_1 (NF : Nat) (p1 : Int32) (v : Nat → Int32) (f : Nat → Nat → Int32) : Int32 × (Nat → Int32) × (Nat → Nat → Int32) :=
  match gsX_X6_opened_1 NF (v 2) v f with
  | (r1, v3, f4) =>
    if r1 = 1 then
      match gsX_X6_numbered_1 NF p1 v3 f4 with
      | (r6, v8, f9) =>
        if 0 ≤ r6 then
          match gsX_X7_set_1 NF (v 2) r6 v8 f9 with
          | (v12, f13) =>
            (1, v12, f13)
        else
          (0, v8, f9)
    else
      (0, v3, f4)
theorem gsX_X6_settingLine_1_q0 {NF : Nat} {p1 : Int32} {v : Nat → Int32} {f : Nat → Nat → Int32} {v3 : Nat → Int32} {f4 : Nat → Nat → Int32} {r6 : Int32} {v8 : Nat → Int32} {f9 : Nat → Nat → Int32} {v12 : Nat → Int32} {f13 : Nat → Nat → Int32} (h0 : gsX_X6_opened_1 NF (v 2) v f = (1, v3, f4)) (h2 : gsX_X6_numbered_1 NF p1 v3 f4 = (r6, v8, f9)) (h3 : (0 ≤ r6)) (h4 : gsX_X7_set_1 NF (v 2) r6 v8 f9 = (v12, f13)) : gsX_X6_settingLine_1 NF p1 v f = (1, v12, f13) := by
  simp only [gsX_X6_settingLine_1, h0, h2, if_pos h3, h4, ite11, ite01, if_true, if_false]
theorem gsX_X6_settingLine_1_q1 {NF : Nat} {p1 : Int32} {v : Nat → Int32} {f : Nat → Nat → Int32} {v3 : Nat → Int32} {f4 : Nat → Nat → Int32} {r6 : Int32} {v8 : Nat → Int32} {f9 : Nat → Nat → Int32} (h0 : gsX_X6_opened_1 NF (v 2) v f = (1, v3, f4)) (h2 : gsX_X6_numbered_1 NF p1 v3 f4 = (r6, v8, f9)) (h3 : ¬ (0 ≤ r6)) : gsX_X6_settingLine_1 NF p1 v f = (0, v8, f9) := by
  simp only [gsX_X6_settingLine_1, h0, h2, if_neg h3, ite11, ite01, if_true, if_false]
theorem gsX_X6_settingLine_1_q2 {NF : Nat} {p1 : Int32} {v : Nat → Int32} {f : Nat → Nat → Int32} {v3 : Nat → Int32} {f4 : Nat → Nat → Int32} (h0 : gsX_X6_opened_1 NF (v 2) v f = (0, v3, f4)) : gsX_X6_settingLine_1 NF p1 v f = (0, v3, f4) := by
  simp only [gsX_X6_settingLine_1, h0, ite11, ite01, if_true, if_false]
def gsX_X6_line_1 (NF : Nat) (v : Nat → Int32) (f : Nat → Nat → Int32) : Int32 × (Nat → Int32) × (Nat → Nat → Int32) :=
  if (v 2) = 101 then
    match gsX_X6_manLine_1 NF v f with
    | (r2, v4, f5) =>
      if r2 = 1 then
        match gsX_X6_closing_1 NF v4 f5 with
        | (r7, v9, f10) =>
          if r7 = 1 then
            (1, v9, f10)
          else
            (0, v9, f10)
      else
        (0, v4, f5)
  else
    if (v 2) = 102 then
      match gsX_X6_coatLine_1 NF v f with
      | (r13, v15, f16) =>
        if r13 = 1 then
          match gsX_X6_closing_1 NF v15 f16 with
          | (r18, v20, f21) =>
            if r18 = 1 then
              (1, v20, f21)
            else
              (0, v20, f21)
        else
          (0, v15, f16)
    else
      if (v 2) = 103 then
        match gsX_X6_opened_1 NF 103 v f with
        | (r24, v26, f27) =>
          if r24 = 1 then
            match gsX_X6_expression_1 NF v26 f27 with
            | (r29, v31, f32) =>
              if r29 = 1 then
                match gsX_X6_closing_1 NF v31 f32 with
                | (r34, v36, f37) =>
                  if r34 = 1 then
                    (1, v36, f37)
                  else
                    (0, v36, f37)
              else
                (0, v31, f32)
          else
            (0, v26, f27)
      else
        if (v 2) = 104 then
          match gsX_X6_settingLine_1 NF 999 v f with
          | (r40, v42, f43) =>
            if r40 = 1 then
              match gsX_X6_closing_1 NF v42 f43 with
              | (r45, v47, f48) =>
                if r45 = 1 then
                  (1, v47, f48)
                else
                  (0, v47, f48)
            else
              (0, v42, f43)
        else
          if (v 2) = 105 then
            match gsX_X6_settingLine_1 NF 999 v f with
            | (r51, v53, f54) =>
              if r51 = 1 then
                match gsX_X6_closing_1 NF v53 f54 with
                | (r56, v58, f59) =>
                  if r56 = 1 then
                    (1, v58, f59)
                  else
                    (0, v58, f59)
              else
                (0, v53, f54)
          else
            if (v 2) = 106 then
              match gsX_X6_settingLine_1 NF 99 v f with
              | (r62, v64, f65) =>
                if r62 = 1 then
                  match gsX_X6_closing_1 NF v64 f65 with
                  | (r67, v69, f70) =>
                    if r67 = 1 then
                      (1, v69, f70)
                    else
                      (0, v69, f70)
                else
                  (0, v64, f65)
            else
              if (v 2) = 107 then
                match gsX_X6_settingLine_1 NF 100 v f with
                | (r73, v75, f76) =>
                  if r73 = 1 then
                    match gsX_X6_closing_1 NF v75 f76 with
                    | (r78, v80, f81) =>
                      if r78 = 1 then
                        (1, v80, f81)
                      else
                        (0, v80, f81)
                  else
                    (0, v75, f76)
              else
                if (v 2) = 108 then
                  match gsX_X6_settingLine_1 NF 999 v f with
                  | (r84, v86, f87) =>
                    if r84 = 1 then
                      match gsX_X6_closing_1 NF v86 f87 with
                      | (r89, v91, f92) =>
                        if r89 = 1 then
                          (1, v91, f92)
                        else
                          (0, v91, f92)
                    else
                      (0, v86, f87)
                else
                  match gsX_X6_refuse_1 NF v f with
                  | (r94, v96, f97) =>
                    if r94 = 1 then
                      (1, v96, f97)
                    else
                      (0, v96, f97)
theorem gsX_X6_line_1_q0 {NF : Nat} {v : Nat → Int32} {f : Nat → Nat → Int32} {v4 : Nat → Int32} {f5 : Nat → Nat → Int32} {v9 : Nat → Int32} {f10 : Nat → Nat → Int32} (h0 : ((v 2) = 101)) (h1 : gsX_X6_manLine_1 NF v f = (1, v4, f5)) (h3 : gsX_X6_closing_1 NF v4 f5 = (1, v9, f10)) : gsX_X6_line_1 NF v f = (1, v9, f10) := by
  simp only [gsX_X6_line_1, if_pos h0, h1, h3, ite11, ite01, if_true, if_false]
theorem gsX_X6_line_1_q1 {NF : Nat} {v : Nat → Int32} {f : Nat → Nat → Int32} {v4 : Nat → Int32} {f5 : Nat → Nat → Int32} {v9 : Nat → Int32} {f10 : Nat → Nat → Int32} (h0 : ((v 2) = 101)) (h1 : gsX_X6_manLine_1 NF v f = (1, v4, f5)) (h3 : gsX_X6_closing_1 NF v4 f5 = (0, v9, f10)) : gsX_X6_line_1 NF v f = (0, v9, f10) := by
  simp only [gsX_X6_line_1, if_pos h0, h1, h3, ite11, ite01, if_true, if_false]
theorem gsX_X6_line_1_q2 {NF : Nat} {v : Nat → Int32} {f : Nat → Nat → Int32} {v4 : Nat → Int32} {f5 : Nat → Nat → Int32} (h0 : ((v 2) = 101)) (h1 : gsX_X6_manLine_1 NF v f = (0, v4, f5)) : gsX_X6_line_1 NF v f = (0, v4, f5) := by
  simp only [gsX_X6_line_1, if_pos h0, h1, ite11, ite01, if_true, if_false]
theorem gsX_X6_line_1_q3 {NF : Nat} {v : Nat → Int32} {f : Nat → Nat → Int32} {v15 : Nat → Int32} {f16 : Nat → Nat → Int32} {v20 : Nat → Int32} {f21 : Nat → Nat → Int32} (h0 : ¬ ((v 2) = 101)) (h1 : ((v 2) = 102)) (h2 : gsX_X6_coatLine_1 NF v f = (1, v15, f16)) (h4 : gsX_X6_closing_1 NF v15 f16 = (1, v20, f21)) : gsX_X6_line_1 NF v f = (1, v20, f21) := by
  simp only [gsX_X6_line_1, if_neg h0, if_pos h1, h2, h4, ite11, ite01, if_true, if_false]
theorem gsX_X6_line_1_q4 {NF : Nat} {v : Nat → Int32} {f : Nat → Nat → Int32} {v15 : Nat → Int32} {f16 : Nat → Nat → Int32} {v20 : Nat → Int32} {f21 : Nat → Nat → Int32} (h0 : ¬ ((v 2) = 101)) (h1 : ((v 2) = 102)) (h2 : gsX_X6_coatLine_1 NF v f = (1, v15, f16)) (h4 : gsX_X6_closing_1 NF v15 f16 = (0, v20, f21)) : gsX_X6_line_1 NF v f = (0, v20, f21) := by
  simp only [gsX_X6_line_1, if_neg h0, if_pos h1, h2, h4, ite11, ite01, if_true, if_false]
theorem gsX_X6_line_1_q5 {NF : Nat} {v : Nat → Int32} {f : Nat → Nat → Int32} {v15 : Nat → Int32} {f16 : Nat → Nat → Int32} (h0 : ¬ ((v 2) = 101)) (h1 : ((v 2) = 102)) (h2 : gsX_X6_coatLine_1 NF v f = (0, v15, f16)) : gsX_X6_line_1 NF v f = (0, v15, f16) := by
  simp only [gsX_X6_line_1, if_neg h0, if_pos h1, h2, ite11, ite01, if_true, if_false]
theorem gsX_X6_line_1_q6 {NF : Nat} {v : Nat → Int32} {f : Nat → Nat → Int32} {v26 : Nat → Int32} {f27 : Nat → Nat → Int32} {v31 : Nat → Int32} {f32 : Nat → Nat → Int32} {v36 : Nat → Int32} {f37 : Nat → Nat → Int32} (h0 : ¬ ((v 2) = 101)) (h1 : ¬ ((v 2) = 102)) (h2 : ((v 2) = 103)) (h3 : gsX_X6_opened_1 NF 103 v f = (1, v26, f27)) (h5 : gsX_X6_expression_1 NF v26 f27 = (1, v31, f32)) (h7 : gsX_X6_closing_1 NF v31 f32 = (1, v36, f37)) : gsX_X6_line_1 NF v f = (1, v36, f37) := by
  simp only [gsX_X6_line_1, if_neg h0, if_neg h1, if_pos h2, h3, h5, h7, ite11, ite01, if_true, if_false]
theorem gsX_X6_line_1_q7 {NF : Nat} {v : Nat → Int32} {f : Nat → Nat → Int32} {v26 : Nat → Int32} {f27 : Nat → Nat → Int32} {v31 : Nat → Int32} {f32 : Nat → Nat → Int32} {v36 : Nat → Int32} {f37 : Nat → Nat → Int32} (h0 : ¬ ((v 2) = 101)) (h1 : ¬ ((v 2) = 102)) (h2 : ((v 2) = 103)) (h3 : gsX_X6_opened_1 NF 103 v f = (1, v26, f27)) (h5 : gsX_X6_expression_1 NF v26 f27 = (1, v31, f32)) (h7 : gsX_X6_closing_1 NF v31 f32 = (0, v36, f37)) : gsX_X6_line_1 NF v f = (0, v36, f37) := by
  simp only [gsX_X6_line_1, if_neg h0, if_neg h1, if_pos h2, h3, h5, h7, ite11, ite01, if_true, if_false]
theorem gsX_X6_line_1_q8 {NF : Nat} {v : Nat → Int32} {f : Nat → Nat → Int32} {v26 : Nat → Int32} {f27 : Nat → Nat → Int32} {v31 : Nat → Int32} {f32 : Nat → Nat → Int32} (h0 : ¬ ((v 2) = 101)) (h1 : ¬ ((v 2) = 102)) (h2 : ((v 2) = 103)) (h3 : gsX_X6_opened_1 NF 103 v f = (1, v26, f27)) (h5 : gsX_X6_expression_1 NF v26 f27 = (0, v31, f32)) : gsX_X6_line_1 NF v f = (0, v31, f32) := by
  simp only [gsX_X6_line_1, if_neg h0, if_neg h1, if_pos h2, h3, h5, ite11, ite01, if_true, if_false]
theorem gsX_X6_line_1_q9 {NF : Nat} {v : Nat → Int32} {f : Nat → Nat → Int32} {v26 : Nat → Int32} {f27 : Nat → Nat → Int32} (h0 : ¬ ((v 2) = 101)) (h1 : ¬ ((v 2) = 102)) (h2 : ((v 2) = 103)) (h3 : gsX_X6_opened_1 NF 103 v f = (0, v26, f27)) : gsX_X6_line_1 NF v f = (0, v26, f27) := by
  simp only [gsX_X6_line_1, if_neg h0, if_neg h1, if_pos h2, h3, ite11, ite01, if_true, if_false]
theorem gsX_X6_line_1_q10 {NF : Nat} {v : Nat → Int32} {f : Nat → Nat → Int32} {v42 : Nat → Int32} {f43 : Nat → Nat → Int32} {v47 : Nat → Int32} {f48 : Nat → Nat → Int32} (h0 : ¬ ((v 2) = 101)) (h1 : ¬ ((v 2) = 102)) (h2 : ¬ ((v 2) = 103)) (h3 : ((v 2) = 104)) (h4 : gsX_X6_settingLine_1 NF 999 v f = (1, v42, f43)) (h6 : gsX_X6_closing_1 NF v42 f43 = (1, v47, f48)) : gsX_X6_line_1 NF v f = (1, v47, f48) := by
  simp only [gsX_X6_line_1, if_neg h0, if_neg h1, if_neg h2, if_pos h3, h4, h6, ite11, ite01, if_true, if_false]
theorem gsX_X6_line_1_q11 {NF : Nat} {v : Nat → Int32} {f : Nat → Nat → Int32} {v42 : Nat → Int32} {f43 : Nat → Nat → Int32} {v47 : Nat → Int32} {f48 : Nat → Nat → Int32} (h0 : ¬ ((v 2) = 101)) (h1 : ¬ ((v 2) = 102)) (h2 : ¬ ((v 2) = 103)) (h3 : ((v 2) = 104)) (h4 : gsX_X6_settingLine_1 NF 999 v f = (1, v42, f43)) (h6 : gsX_X6_closing_1 NF v42 f43 = (0, v47, f48)) : gsX_X6_line_1 NF v f = (0, v47, f48) := by
  simp only [gsX_X6_line_1, if_neg h0, if_neg h1, if_neg h2, if_pos h3, h4, h6, ite11, ite01, if_true, if_false]
theorem gsX_X6_line_1_q12 {NF : Nat} {v : Nat → Int32} {f : Nat → Nat → Int32} {v42 : Nat → Int32} {f43 : Nat → Nat → Int32} (h0 : ¬ ((v 2) = 101)) (h1 : ¬ ((v 2) = 102)) (h2 : ¬ ((v 2) = 103)) (h3 : ((v 2) = 104)) (h4 : gsX_X6_settingLine_1 NF 999 v f = (0, v42, f43)) : gsX_X6_line_1 NF v f = (0, v42, f43) := by
  simp only [gsX_X6_line_1, if_neg h0, if_neg h1, if_neg h2, if_pos h3, h4, ite11, ite01, if_true, if_false]
theorem gsX_X6_line_1_q13 {NF : Nat} {v : Nat → Int32} {f : Nat → Nat → Int32} {v53 : Nat → Int32} {f54 : Nat → Nat → Int32} {v58 : Nat → Int32} {f59 : Nat → Nat → Int32} (h0 : ¬ ((v 2) = 101)) (h1 : ¬ ((v 2) = 102)) (h2 : ¬ ((v 2) = 103)) (h3 : ¬ ((v 2) = 104)) (h4 : ((v 2) = 105)) (h5 : gsX_X6_settingLine_1 NF 999 v f = (1, v53, f54)) (h7 : gsX_X6_closing_1 NF v53 f54 = (1, v58, f59)) : gsX_X6_line_1 NF v f = (1, v58, f59) := by
  simp only [gsX_X6_line_1, if_neg h0, if_neg h1, if_neg h2, if_neg h3, if_pos h4, h5, h7, ite11, ite01, if_true, if_false]
theorem gsX_X6_line_1_q14 {NF : Nat} {v : Nat → Int32} {f : Nat → Nat → Int32} {v53 : Nat → Int32} {f54 : Nat → Nat → Int32} {v58 : Nat → Int32} {f59 : Nat → Nat → Int32} (h0 : ¬ ((v 2) = 101)) (h1 : ¬ ((v 2) = 102)) (h2 : ¬ ((v 2) = 103)) (h3 : ¬ ((v 2) = 104)) (h4 : ((v 2) = 105)) (h5 : gsX_X6_settingLine_1 NF 999 v f = (1, v53, f54)) (h7 : gsX_X6_closing_1 NF v53 f54 = (0, v58, f59)) : gsX_X6_line_1 NF v f = (0, v58, f59) := by
  simp only [gsX_X6_line_1, if_neg h0, if_neg h1, if_neg h2, if_neg h3, if_pos h4, h5, h7, ite11, ite01, if_true, if_false]
theorem gsX_X6_line_1_q15 {NF : Nat} {v : Nat → Int32} {f : Nat → Nat → Int32} {v53 : Nat → Int32} {f54 : Nat → Nat → Int32} (h0 : ¬ ((v 2) = 101)) (h1 : ¬ ((v 2) = 102)) (h2 : ¬ ((v 2) = 103)) (h3 : ¬ ((v 2) = 104)) (h4 : ((v 2) = 105)) (h5 : gsX_X6_settingLine_1 NF 999 v f = (0, v53, f54)) : gsX_X6_line_1 NF v f = (0, v53, f54) := by
  simp only [gsX_X6_line_1, if_neg h0, if_neg h1, if_neg h2, if_neg h3, if_pos h4, h5, ite11, ite01, if_true, if_false]
theorem gsX_X6_line_1_q16 {NF : Nat} {v : Nat → Int32} {f : Nat → Nat → Int32} {v64 : Nat → Int32} {f65 : Nat → Nat → Int32} {v69 : Nat → Int32} {f70 : Nat → Nat → Int32} (h0 : ¬ ((v 2) = 101)) (h1 : ¬ ((v 2) = 102)) (h2 : ¬ ((v 2) = 103)) (h3 : ¬ ((v 2) = 104)) (h4 : ¬ ((v 2) = 105)) (h5 : ((v 2) = 106)) (h6 : gsX_X6_settingLine_1 NF 99 v f = (1, v64, f65)) (h8 : gsX_X6_closing_1 NF v64 f65 = (1, v69, f70)) : gsX_X6_line_1 NF v f = (1, v69, f70) := by
  simp only [gsX_X6_line_1, if_neg h0, if_neg h1, if_neg h2, if_neg h3, if_neg h4, if_pos h5, h6, h8, ite11, ite01, if_true, if_false]
theorem gsX_X6_line_1_q17 {NF : Nat} {v : Nat → Int32} {f : Nat → Nat → Int32} {v64 : Nat → Int32} {f65 : Nat → Nat → Int32} {v69 : Nat → Int32} {f70 : Nat → Nat → Int32} (h0 : ¬ ((v 2) = 101)) (h1 : ¬ ((v 2) = 102)) (h2 : ¬ ((v 2) = 103)) (h3 : ¬ ((v 2) = 104)) (h4 : ¬ ((v 2) = 105)) (h5 : ((v 2) = 106)) (h6 : gsX_X6_settingLine_1 NF 99 v f = (1, v64, f65)) (h8 : gsX_X6_closing_1 NF v64 f65 = (0, v69, f70)) : gsX_X6_line_1 NF v f = (0, v69, f70) := by
  simp only [gsX_X6_line_1, if_neg h0, if_neg h1, if_neg h2, if_neg h3, if_neg h4, if_pos h5, h6, h8, ite11, ite01, if_true, if_false]
theorem gsX_X6_line_1_q18 {NF : Nat} {v : Nat → Int32} {f : Nat → Nat → Int32} {v64 : Nat → Int32} {f65 : Nat → Nat → Int32} (h0 : ¬ ((v 2) = 101)) (h1 : ¬ ((v 2) = 102)) (h2 : ¬ ((v 2) = 103)) (h3 : ¬ ((v 2) = 104)) (h4 : ¬ ((v 2) = 105)) (h5 : ((v 2) = 106)) (h6 : gsX_X6_settingLine_1 NF 99 v f = (0, v64, f65)) : gsX_X6_line_1 NF v f = (0, v64, f65) := by
  simp only [gsX_X6_line_1, if_neg h0, if_neg h1, if_neg h2, if_neg h3, if_neg h4, if_pos h5, h6, ite11, ite01, if_true, if_false]
theorem gsX_X6_line_1_q19 {NF : Nat} {v : Nat → Int32} {f : Nat → Nat → Int32} {v75 : Nat → Int32} {f76 : Nat → Nat → Int32} {v80 : Nat → Int32} {f81 : Nat → Nat → Int32} (h0 : ¬ ((v 2) = 101)) (h1 : ¬ ((v 2) = 102)) (h2 : ¬ ((v 2) = 103)) (h3 : ¬ ((v 2) = 104)) (h4 : ¬ ((v 2) = 105)) (h5 : ¬ ((v 2) = 106)) (h6 : ((v 2) = 107)) (h7 : gsX_X6_settingLine_1 NF 100 v f = (1, v75, f76)) (h9 : gsX_X6_closing_1 NF v75 f76 = (1, v80, f81)) : gsX_X6_line_1 NF v f = (1, v80, f81) := by
  simp only [gsX_X6_line_1, if_neg h0, if_neg h1, if_neg h2, if_neg h3, if_neg h4, if_neg h5, if_pos h6, h7, h9, ite11, ite01, if_true, if_false]
theorem gsX_X6_line_1_q20 {NF : Nat} {v : Nat → Int32} {f : Nat → Nat → Int32} {v75 : Nat → Int32} {f76 : Nat → Nat → Int32} {v80 : Nat → Int32} {f81 : Nat → Nat → Int32} (h0 : ¬ ((v 2) = 101)) (h1 : ¬ ((v 2) = 102)) (h2 : ¬ ((v 2) = 103)) (h3 : ¬ ((v 2) = 104)) (h4 : ¬ ((v 2) = 105)) (h5 : ¬ ((v 2) = 106)) (h6 : ((v 2) = 107)) (h7 : gsX_X6_settingLine_1 NF 100 v f = (1, v75, f76)) (h9 : gsX_X6_closing_1 NF v75 f76 = (0, v80, f81)) : gsX_X6_line_1 NF v f = (0, v80, f81) := by
  simp only [gsX_X6_line_1, if_neg h0, if_neg h1, if_neg h2, if_neg h3, if_neg h4, if_neg h5, if_pos h6, h7, h9, ite11, ite01, if_true, if_false]
theorem gsX_X6_line_1_q21 {NF : Nat} {v : Nat → Int32} {f : Nat → Nat → Int32} {v75 : Nat → Int32} {f76 : Nat → Nat → Int32} (h0 : ¬ ((v 2) = 101)) (h1 : ¬ ((v 2) = 102)) (h2 : ¬ ((v 2) = 103)) (h3 : ¬ ((v 2) = 104)) (h4 : ¬ ((v 2) = 105)) (h5 : ¬ ((v 2) = 106)) (h6 : ((v 2) = 107)) (h7 : gsX_X6_settingLine_1 NF 100 v f = (0, v75, f76)) : gsX_X6_line_1 NF v f = (0, v75, f76) := by
  simp only [gsX_X6_line_1, if_neg h0, if_neg h1, if_neg h2, if_neg h3, if_neg h4, if_neg h5, if_pos h6, h7, ite11, ite01, if_true, if_false]
theorem gsX_X6_line_1_q22 {NF : Nat} {v : Nat → Int32} {f : Nat → Nat → Int32} {v86 : Nat → Int32} {f87 : Nat → Nat → Int32} {v91 : Nat → Int32} {f92 : Nat → Nat → Int32} (h0 : ¬ ((v 2) = 101)) (h1 : ¬ ((v 2) = 102)) (h2 : ¬ ((v 2) = 103)) (h3 : ¬ ((v 2) = 104)) (h4 : ¬ ((v 2) = 105)) (h5 : ¬ ((v 2) = 106)) (h6 : ¬ ((v 2) = 107)) (h7 : ((v 2) = 108)) (h8 : gsX_X6_settingLine_1 NF 999 v f = (1, v86, f87)) (h10 : gsX_X6_closing_1 NF v86 f87 = (1, v91, f92)) : gsX_X6_line_1 NF v f = (1, v91, f92) := by
  simp only [gsX_X6_line_1, if_neg h0, if_neg h1, if_neg h2, if_neg h3, if_neg h4, if_neg h5, if_neg h6, if_pos h7, h8, h10, ite11, ite01, if_true, if_false]
theorem gsX_X6_line_1_q23 {NF : Nat} {v : Nat → Int32} {f : Nat → Nat → Int32} {v86 : Nat → Int32} {f87 : Nat → Nat → Int32} {v91 : Nat → Int32} {f92 : Nat → Nat → Int32} (h0 : ¬ ((v 2) = 101)) (h1 : ¬ ((v 2) = 102)) (h2 : ¬ ((v 2) = 103)) (h3 : ¬ ((v 2) = 104)) (h4 : ¬ ((v 2) = 105)) (h5 : ¬ ((v 2) = 106)) (h6 : ¬ ((v 2) = 107)) (h7 : ((v 2) = 108)) (h8 : gsX_X6_settingLine_1 NF 999 v f = (1, v86, f87)) (h10 : gsX_X6_closing_1 NF v86 f87 = (0, v91, f92)) : gsX_X6_line_1 NF v f = (0, v91, f92) := by
  simp only [gsX_X6_line_1, if_neg h0, if_neg h1, if_neg h2, if_neg h3, if_neg h4, if_neg h5, if_neg h6, if_pos h7, h8, h10, ite11, ite01, if_true, if_false]
theorem gsX_X6_line_1_q24 {NF : Nat} {v : Nat → Int32} {f : Nat → Nat → Int32} {v86 : Nat → Int32} {f87 : Nat → Nat → Int32} (h0 : ¬ ((v 2) = 101)) (h1 : ¬ ((v 2) = 102)) (h2 : ¬ ((v 2) = 103)) (h3 : ¬ ((v 2) = 104)) (h4 : ¬ ((v 2) = 105)) (h5 : ¬ ((v 2) = 106)) (h6 : ¬ ((v 2) = 107)) (h7 : ((v 2) = 108)) (h8 : gsX_X6_settingLine_1 NF 999 v f = (0, v86, f87)) : gsX_X6_line_1 NF v f = (0, v86, f87) := by
  simp only [gsX_X6_line_1, if_neg h0, if_neg h1, if_neg h2, if_neg h3, if_neg h4, if_neg h5, if_neg h6, if_pos h7, h8, ite11, ite01, if_true, if_false]
theorem gsX_X6_line_1_q25 {NF : Nat} {v : Nat → Int32} {f : Nat → Nat → Int32} {v96 : Nat → Int32} {f97 : Nat → Nat → Int32} (h0 : ¬ ((v 2) = 101)) (h1 : ¬ ((v 2) = 102)) (h2 : ¬ ((v 2) = 103)) (h3 : ¬ ((v 2) = 104)) (h4 : ¬ ((v 2) = 105)) (h5 : ¬ ((v 2) = 106)) (h6 : ¬ ((v 2) = 107)) (h7 : ¬ ((v 2) = 108)) (h8 : gsX_X6_refuse_1 NF v f = (1, v96, f97)) : gsX_X6_line_1 NF v f = (1, v96, f97) := by
  simp only [gsX_X6_line_1, if_neg h0, if_neg h1, if_neg h2, if_neg h3, if_neg h4, if_neg h5, if_neg h6, if_neg h7, h8, ite11, ite01, if_true, if_false]
theorem gsX_X6_line_1_q26 {NF : Nat} {v : Nat → Int32} {f : Nat → Nat → Int32} {v96 : Nat → Int32} {f97 : Nat → Nat → Int32} (h0 : ¬ ((v 2) = 101)) (h1 : ¬ ((v 2) = 102)) (h2 : ¬ ((v 2) = 103)) (h3 : ¬ ((v 2) = 104)) (h4 : ¬ ((v 2) = 105)) (h5 : ¬ ((v 2) = 106)) (h6 : ¬ ((v 2) = 107)) (h7 : ¬ ((v 2) = 108)) (h8 : gsX_X6_refuse_1 NF v f = (0, v96, f97)) : gsX_X6_line_1 NF v f = (0, v96, f97) := by
  simp only [gsX_X6_line_1, if_neg h0, if_neg h1, if_neg h2, if_neg h3, if_neg h4, if_neg h5, if_neg h6, if_neg h7, h8, ite11, ite01, if_true, if_false]
def gsX_X6_read_1_L7 (NF : Nat) : Nat → (Int32) → (Nat → Int32) → (Nat → Nat → Int32) → Int32 × (Nat → Int32) × (Nat → Nat → Int32)
  | 0, _, _, _ => (0, (fun _ => 0), (fun _ _ => 0))
  | n7 + 1, l1_7, v7, f7 =>
    if 1600 ≤ l1_7 then
      (1, v7, f7)
    else
      if (v7 2) = 0 then
        (1, v7, f7)
      else
        match gsX_X6_line_1 NF v7 f7 with
        | (r10, v12, f13) =>
          if r10 = 1 then
            let t15 : Int32 := l1_7 + 1
            gsX_X6_read_1_L7 NF n7 t15 v12 f13
          else
            (0, v12, f13)
def gsX_X6_read_1 (NF : Nat) (v : Nat → Int32) (f : Nat → Nat → Int32) : Int32 × (Nat → Int32) × (Nat → Nat → Int32) :=
  match gsX_X7_clear_1 NF v f with
  | (v2, f3) =>
    match gsX_X9_rewind_1 NF (upd (upd (upd v2 6 0) 7 0) 8 (-1)) f3 with
    | (v5, f6) =>
      gsX_X6_read_1_L7 NF (4294967296 + NF) 0 v5 f6
theorem gsX_X6_read_1_q4 {NF : Nat} {v : Nat → Int32} {f : Nat → Nat → Int32} {v2 : Nat → Int32} {f3 : Nat → Nat → Int32} {v5 : Nat → Int32} {f6 : Nat → Nat → Int32} (h0 : gsX_X7_clear_1 NF v f = (v2, f3)) (h1 : gsX_X9_rewind_1 NF (upd (upd (upd v2 6 0) 7 0) 8 (-1)) f3 = (v5, f6)) : gsX_X6_read_1 NF v f = gsX_X6_read_1_L7 NF (4294967296 + NF) 0 v5 f6 := by
  simp only [gsX_X6_read_1, h0, h1]
theorem gsX_X6_read_1_q0 {NF : Nat} {n7 : Nat} {l1_7 : Int32} {v7 : Nat → Int32} {f7 : Nat → Nat → Int32} (h0 : (1600 ≤ l1_7)) : gsX_X6_read_1_L7 NF (n7 + 1) l1_7 v7 f7 = (1, v7, f7) := by
  simp only [gsX_X6_read_1_L7, if_pos h0]
theorem gsX_X6_read_1_q1 {NF : Nat} {n7 : Nat} {l1_7 : Int32} {v7 : Nat → Int32} {f7 : Nat → Nat → Int32} (h0 : ¬ (1600 ≤ l1_7)) (h1 : ((v7 2) = 0)) : gsX_X6_read_1_L7 NF (n7 + 1) l1_7 v7 f7 = (1, v7, f7) := by
  simp only [gsX_X6_read_1_L7, if_neg h0, if_pos h1]
theorem gsX_X6_read_1_q2 {NF : Nat} {n7 : Nat} {l1_7 : Int32} {v7 : Nat → Int32} {f7 : Nat → Nat → Int32} {v12 : Nat → Int32} {f13 : Nat → Nat → Int32} {t15 : Int32} (h0 : ¬ (1600 ≤ l1_7)) (h1 : ¬ ((v7 2) = 0)) (h2 : gsX_X6_line_1 NF v7 f7 = (1, v12, f13)) (h4 : t15 = l1_7 + 1) : gsX_X6_read_1_L7 NF (n7 + 1) l1_7 v7 f7 = gsX_X6_read_1_L7 NF n7 t15 v12 f13 := by
  subst h4
  simp only [gsX_X6_read_1_L7, if_neg h0, if_neg h1, h2, ite11, ite01, if_true, if_false]
theorem gsX_X6_read_1_q3 {NF : Nat} {n7 : Nat} {l1_7 : Int32} {v7 : Nat → Int32} {f7 : Nat → Nat → Int32} {v12 : Nat → Int32} {f13 : Nat → Nat → Int32} (h0 : ¬ (1600 ≤ l1_7)) (h1 : ¬ ((v7 2) = 0)) (h2 : gsX_X6_line_1 NF v7 f7 = (0, v12, f13)) : gsX_X6_read_1_L7 NF (n7 + 1) l1_7 v7 f7 = (0, v12, f13) := by
  simp only [gsX_X6_read_1_L7, if_neg h0, if_neg h1, h2, ite11, ite01, if_true, if_false]
def gsX_X4_copy_1 (NF : Nat) (v : Nat → Int32) (f : Nat → Nat → Int32) : (Nat → Int32) × (Nat → Nat → Int32) :=
  let f1 : Nat → Nat → Int32 := upd2 f 11 (va_cpy (f 3) (f 11) (0 : Int32).toNatClampNeg (0 : Int32).toNatClampNeg (300 : Int32).toNatClampNeg)
  let f2 : Nat → Nat → Int32 := upd2 f1 12 (va_cpy (f1 4) (f1 12) (0 : Int32).toNatClampNeg (0 : Int32).toNatClampNeg (300 : Int32).toNatClampNeg)
  ((upd (upd v 18 (v 16)) 19 (v 17)), f2)
theorem gsX_X4_copy_1_q0 {NF : Nat} {v : Nat → Int32} {f : Nat → Nat → Int32} {f1 : Nat → Nat → Int32} {f2 : Nat → Nat → Int32} (h0 : f1 = upd2 f 11 (va_cpy (f 3) (f 11) (0 : Int32).toNatClampNeg (0 : Int32).toNatClampNeg (300 : Int32).toNatClampNeg)) (h1 : f2 = upd2 f1 12 (va_cpy (f1 4) (f1 12) (0 : Int32).toNatClampNeg (0 : Int32).toNatClampNeg (300 : Int32).toNatClampNeg)) : gsX_X4_copy_1 NF v f = ((upd (upd v 18 (v 16)) 19 (v 17)), f2) := by
  subst h0 h1
  simp only [gsX_X4_copy_1]
def gsX_X7_copy_1 (NF : Nat) (v : Nat → Int32) (f : Nat → Nat → Int32) : (Nat → Int32) × (Nat → Nat → Int32) :=
  let f1 : Nat → Nat → Int32 := upd2 f 9 (va_cpy (f 1) (f 9) (0 : Int32).toNatClampNeg (0 : Int32).toNatClampNeg (18 : Int32).toNatClampNeg)
  let f2 : Nat → Nat → Int32 := upd2 f1 10 (va_cpy (f1 2) (f1 10) (0 : Int32).toNatClampNeg (0 : Int32).toNatClampNeg (24 : Int32).toNatClampNeg)
  match gsX_X4_copy_1 NF v f2 with
  | (v4, f5) =>
    ((upd (upd (upd (upd (upd (upd (upd v4 31 (v 9)) 32 (v 10)) 33 (v4 11)) 34 (v4 12)) 35 (v4 13)) 36 (v4 14)) 37 (v4 15)), f5)
theorem gsX_X7_copy_1_q0 {NF : Nat} {v : Nat → Int32} {f : Nat → Nat → Int32} {f1 : Nat → Nat → Int32} {f2 : Nat → Nat → Int32} {v4 : Nat → Int32} {f5 : Nat → Nat → Int32} (h0 : f1 = upd2 f 9 (va_cpy (f 1) (f 9) (0 : Int32).toNatClampNeg (0 : Int32).toNatClampNeg (18 : Int32).toNatClampNeg)) (h1 : f2 = upd2 f1 10 (va_cpy (f1 2) (f1 10) (0 : Int32).toNatClampNeg (0 : Int32).toNatClampNeg (24 : Int32).toNatClampNeg)) (h2 : gsX_X4_copy_1 NF v f2 = (v4, f5)) : gsX_X7_copy_1 NF v f = ((upd (upd (upd (upd (upd (upd (upd v4 31 (v 9)) 32 (v 10)) 33 (v4 11)) 34 (v4 12)) 35 (v4 13)) 36 (v4 14)) 37 (v4 15)), f5) := by
  subst h0 h1
  simp only [gsX_X7_copy_1, h2]
def gsX_X7_hasCoat_1 (NF : Nat) (p1 : Int32) (v : Nat → Int32) (f : Nat → Nat → Int32) : Int32 :=
  if p1 < 0 then
    0
  else
    if (v 32) ≤ p1 then
      0
    else
      1
theorem gsX_X7_hasCoat_1_q0 {NF : Nat} {p1 : Int32} {v : Nat → Int32} {f : Nat → Nat → Int32} (h0 : (p1 < 0)) : gsX_X7_hasCoat_1 NF p1 v f = 0 := by
  simp only [gsX_X7_hasCoat_1, if_pos h0]
theorem gsX_X7_hasCoat_1_q1 {NF : Nat} {p1 : Int32} {v : Nat → Int32} {f : Nat → Nat → Int32} (h0 : ¬ (p1 < 0)) (h1 : ((v 32) ≤ p1)) : gsX_X7_hasCoat_1 NF p1 v f = 0 := by
  simp only [gsX_X7_hasCoat_1, if_neg h0, if_pos h1]
theorem gsX_X7_hasCoat_1_q2 {NF : Nat} {p1 : Int32} {v : Nat → Int32} {f : Nat → Nat → Int32} (h0 : ¬ (p1 < 0)) (h1 : ¬ ((v 32) ≤ p1)) : gsX_X7_hasCoat_1 NF p1 v f = 1 := by
  simp only [gsX_X7_hasCoat_1, if_neg h0, if_neg h1]
def gsX_X7_coatPart_1 (NF : Nat) (p1 : Int32) (p2 : Int32) (v : Nat → Int32) (f : Nat → Nat → Int32) : Int32 :=
  if gsX_X7_hasCoat_1 NF p2 v f = 1 then
    if p1 < 0 then
      0
    else
      if 4 ≤ p1 then
        0
      else
        let t6 : Int32 := p1 * 6
        let t8 : Int32 := t6 + p2
        let t11 : Int32 := f 10 (t8).toNatClampNeg
        t11
  else
    0
theorem gsX_X7_coatPart_1_q0 {NF : Nat} {p1 : Int32} {p2 : Int32} {v : Nat → Int32} {f : Nat → Nat → Int32} (h0 : gsX_X7_hasCoat_1 NF p2 v f = 1) (h1 : (p1 < 0)) : gsX_X7_coatPart_1 NF p1 p2 v f = 0 := by
  simp only [gsX_X7_coatPart_1, h0, if_pos h1, ite11, ite01, if_true, if_false]
theorem gsX_X7_coatPart_1_q1 {NF : Nat} {p1 : Int32} {p2 : Int32} {v : Nat → Int32} {f : Nat → Nat → Int32} (h0 : gsX_X7_hasCoat_1 NF p2 v f = 1) (h1 : ¬ (p1 < 0)) (h2 : (4 ≤ p1)) : gsX_X7_coatPart_1 NF p1 p2 v f = 0 := by
  simp only [gsX_X7_coatPart_1, h0, if_neg h1, if_pos h2, ite11, ite01, if_true, if_false]
theorem gsX_X7_coatPart_1_q2 {NF : Nat} {p1 : Int32} {p2 : Int32} {v : Nat → Int32} {f : Nat → Nat → Int32} {t6 : Int32} {t8 : Int32} {t11 : Int32} (h0 : gsX_X7_hasCoat_1 NF p2 v f = 1) (h1 : ¬ (p1 < 0)) (h2 : ¬ (4 ≤ p1)) (h3 : t6 = p1 * 6) (h4 : t8 = t6 + p2) (h5 : t11 = f 10 (t8).toNatClampNeg) : gsX_X7_coatPart_1 NF p1 p2 v f = t11 := by
  subst h3 h4 h5
  simp only [gsX_X7_coatPart_1, h0, if_neg h1, if_neg h2, ite11, ite01, if_true, if_false]
theorem gsX_X7_coatPart_1_q3 {NF : Nat} {p1 : Int32} {p2 : Int32} {v : Nat → Int32} {f : Nat → Nat → Int32} (h0 : gsX_X7_hasCoat_1 NF p2 v f = 0) : gsX_X7_coatPart_1 NF p1 p2 v f = 0 := by
  simp only [gsX_X7_coatPart_1, h0, ite11, ite01, if_true, if_false]
def gsX_X7_hasMan_1 (NF : Nat) (p1 : Int32) (v : Nat → Int32) (f : Nat → Nat → Int32) : Int32 :=
  if p1 < 0 then
    0
  else
    if (v 31) ≤ p1 then
      0
    else
      1
theorem gsX_X7_hasMan_1_q0 {NF : Nat} {p1 : Int32} {v : Nat → Int32} {f : Nat → Nat → Int32} (h0 : (p1 < 0)) : gsX_X7_hasMan_1 NF p1 v f = 0 := by
  simp only [gsX_X7_hasMan_1, if_pos h0]
theorem gsX_X7_hasMan_1_q1 {NF : Nat} {p1 : Int32} {v : Nat → Int32} {f : Nat → Nat → Int32} (h0 : ¬ (p1 < 0)) (h1 : ((v 31) ≤ p1)) : gsX_X7_hasMan_1 NF p1 v f = 0 := by
  simp only [gsX_X7_hasMan_1, if_neg h0, if_pos h1]
theorem gsX_X7_hasMan_1_q2 {NF : Nat} {p1 : Int32} {v : Nat → Int32} {f : Nat → Nat → Int32} (h0 : ¬ (p1 < 0)) (h1 : ¬ ((v 31) ≤ p1)) : gsX_X7_hasMan_1 NF p1 v f = 1 := by
  simp only [gsX_X7_hasMan_1, if_neg h0, if_neg h1]
def gsX_X7_manPart_1 (NF : Nat) (p1 : Int32) (p2 : Int32) (v : Nat → Int32) (f : Nat → Nat → Int32) : Int32 :=
  if gsX_X7_hasMan_1 NF p2 v f = 1 then
    if p1 < 0 then
      0
    else
      if 3 ≤ p1 then
        0
      else
        let t6 : Int32 := p1 * 6
        let t8 : Int32 := t6 + p2
        let t11 : Int32 := f 9 (t8).toNatClampNeg
        t11
  else
    0
theorem gsX_X7_manPart_1_q0 {NF : Nat} {p1 : Int32} {p2 : Int32} {v : Nat → Int32} {f : Nat → Nat → Int32} (h0 : gsX_X7_hasMan_1 NF p2 v f = 1) (h1 : (p1 < 0)) : gsX_X7_manPart_1 NF p1 p2 v f = 0 := by
  simp only [gsX_X7_manPart_1, h0, if_pos h1, ite11, ite01, if_true, if_false]
theorem gsX_X7_manPart_1_q1 {NF : Nat} {p1 : Int32} {p2 : Int32} {v : Nat → Int32} {f : Nat → Nat → Int32} (h0 : gsX_X7_hasMan_1 NF p2 v f = 1) (h1 : ¬ (p1 < 0)) (h2 : (3 ≤ p1)) : gsX_X7_manPart_1 NF p1 p2 v f = 0 := by
  simp only [gsX_X7_manPart_1, h0, if_neg h1, if_pos h2, ite11, ite01, if_true, if_false]
theorem gsX_X7_manPart_1_q2 {NF : Nat} {p1 : Int32} {p2 : Int32} {v : Nat → Int32} {f : Nat → Nat → Int32} {t6 : Int32} {t8 : Int32} {t11 : Int32} (h0 : gsX_X7_hasMan_1 NF p2 v f = 1) (h1 : ¬ (p1 < 0)) (h2 : ¬ (3 ≤ p1)) (h3 : t6 = p1 * 6) (h4 : t8 = t6 + p2) (h5 : t11 = f 9 (t8).toNatClampNeg) : gsX_X7_manPart_1 NF p1 p2 v f = t11 := by
  subst h3 h4 h5
  simp only [gsX_X7_manPart_1, h0, if_neg h1, if_neg h2, ite11, ite01, if_true, if_false]
theorem gsX_X7_manPart_1_q3 {NF : Nat} {p1 : Int32} {p2 : Int32} {v : Nat → Int32} {f : Nat → Nat → Int32} (h0 : gsX_X7_hasMan_1 NF p2 v f = 0) : gsX_X7_manPart_1 NF p1 p2 v f = 0 := by
  simp only [gsX_X7_manPart_1, h0, ite11, ite01, if_true, if_false]
def gsX_X1_muster_1_L7 (NF : Nat) (l1_3 : Int32) (k3 : Int32 → (Nat → Int32) → (Nat → Nat → Int32) → ((Nat → Int32) × (Nat → Nat → Int32))) : Nat → (Int32) → (Nat → Int32) → (Nat → Nat → Int32) → (Nat → Int32) × (Nat → Nat → Int32)
  | 0, _, _, _ => ((fun _ => 0), (fun _ _ => 0))
  | n7 + 1, l2_7, v7, f7 =>
    if 5 ≤ l2_7 then
      let t9 : Int32 := l1_3 + 1
      k3 t9 v7 f7
    else
      let t12 : Int32 := l2_7 * 6
      let t14 : Int32 := 12 + t12
      let t16 : Int32 := t14 + l1_3
      let r19 : Int32 := gsX_X7_coatPart_1 NF l2_7 l1_3 v7 f7
      let f21 : Nat → Nat → Int32 := upd2 f7 15 (upd (f7 15) t16.toNatClampNeg r19)
      let t22 : Int32 := l2_7 + 1
      gsX_X1_muster_1_L7 NF l1_3 k3 n7 t22 v7 f21
def gsX_X1_muster_1_L3 (NF : Nat) : Nat → (Int32) → (Nat → Int32) → (Nat → Nat → Int32) → (Nat → Int32) × (Nat → Nat → Int32)
  | 0, _, _, _ => ((fun _ => 0), (fun _ _ => 0))
  | n3 + 1, l1_3, v3, f3 =>
    if 6 ≤ l1_3 then
      let f5 : Nat → Nat → Int32 := upd2 f3 15 (upd (f3 15) (42 : Int32).toNatClampNeg 0)
      let f6 : Nat → Nat → Int32 := upd2 f5 15 (upd (f5 15) (43 : Int32).toNatClampNeg (v3 37))
      (v3, f6)
    else
      gsX_X1_muster_1_L7 NF l1_3 (fun z0 z1 z2 => gsX_X1_muster_1_L3 NF n3 z0 z1 z2) (4294967296 + NF) 0 v3 f3
def gsX_X1_muster_1_L1 (NF : Nat) : Nat → (Int32) → (Nat → Int32) → (Nat → Nat → Int32) → (Nat → Int32) × (Nat → Nat → Int32)
  | 0, _, _, _ => ((fun _ => 0), (fun _ _ => 0))
  | n1 + 1, l1_1, v1, f1 =>
    if 6 ≤ l1_1 then
      gsX_X1_muster_1_L3 NF (4294967296 + NF) 0 v1 f1
    else
      let r24 : Int32 := gsX_X7_manPart_1 NF 1 l1_1 v1 f1
      let f26 : Nat → Nat → Int32 := upd2 f1 15 (upd (f1 15) l1_1.toNatClampNeg r24)
      let t27 : Int32 := 6 + l1_1
      let f29 : Nat → Nat → Int32 := upd2 f26 15 (upd (f26 15) t27.toNatClampNeg (-1))
      let t30 : Int32 := l1_1 + 1
      gsX_X1_muster_1_L1 NF n1 t30 v1 f29
def gsX_X1_muster_1 (NF : Nat) (v : Nat → Int32) (f : Nat → Nat → Int32) : (Nat → Int32) × (Nat → Nat → Int32) :=
  gsX_X1_muster_1_L1 NF (4294967296 + NF) 0 v f
theorem gsX_X1_muster_1_q6 {NF : Nat} {v : Nat → Int32} {f : Nat → Nat → Int32}  : gsX_X1_muster_1 NF v f = gsX_X1_muster_1_L1 NF (4294967296 + NF) 0 v f := by
  simp only [gsX_X1_muster_1]
theorem gsX_X1_muster_1_q4 {NF : Nat} {n1 : Nat} {l1_1 : Int32} {v1 : Nat → Int32} {f1 : Nat → Nat → Int32} (h0 : (6 ≤ l1_1)) : gsX_X1_muster_1_L1 NF (n1 + 1) l1_1 v1 f1 = gsX_X1_muster_1_L3 NF (4294967296 + NF) 0 v1 f1 := by
  simp only [gsX_X1_muster_1_L1, if_pos h0]
theorem gsX_X1_muster_1_q5 {NF : Nat} {n1 : Nat} {l1_1 : Int32} {v1 : Nat → Int32} {f1 : Nat → Nat → Int32} {r24 : Int32} {f26 : Nat → Nat → Int32} {t27 : Int32} {f29 : Nat → Nat → Int32} {t30 : Int32} (h0 : ¬ (6 ≤ l1_1)) (h1 : r24 = gsX_X7_manPart_1 NF 1 l1_1 v1 f1) (h2 : f26 = upd2 f1 15 (upd (f1 15) l1_1.toNatClampNeg r24)) (h3 : t27 = 6 + l1_1) (h4 : f29 = upd2 f26 15 (upd (f26 15) t27.toNatClampNeg (-1))) (h5 : t30 = l1_1 + 1) : gsX_X1_muster_1_L1 NF (n1 + 1) l1_1 v1 f1 = gsX_X1_muster_1_L1 NF n1 t30 v1 f29 := by
  subst h1 h2 h3 h4 h5
  simp only [gsX_X1_muster_1_L1, if_neg h0]
theorem gsX_X1_muster_1_q0 {NF : Nat} {n3 : Nat} {l1_3 : Int32} {v3 : Nat → Int32} {f3 : Nat → Nat → Int32} {f5 : Nat → Nat → Int32} {f6 : Nat → Nat → Int32} (h0 : (6 ≤ l1_3)) (h1 : f5 = upd2 f3 15 (upd (f3 15) (42 : Int32).toNatClampNeg 0)) (h2 : f6 = upd2 f5 15 (upd (f5 15) (43 : Int32).toNatClampNeg (v3 37))) : gsX_X1_muster_1_L3 NF (n3 + 1) l1_3 v3 f3 = (v3, f6) := by
  subst h1 h2
  simp only [gsX_X1_muster_1_L3, if_pos h0]
theorem gsX_X1_muster_1_q3 {NF : Nat} {n3 : Nat} {l1_3 : Int32} {v3 : Nat → Int32} {f3 : Nat → Nat → Int32} (h0 : ¬ (6 ≤ l1_3)) : gsX_X1_muster_1_L3 NF (n3 + 1) l1_3 v3 f3 = gsX_X1_muster_1_L7 NF l1_3 (fun z0 z1 z2 => gsX_X1_muster_1_L3 NF n3 z0 z1 z2) (4294967296 + NF) 0 v3 f3 := by
  simp only [gsX_X1_muster_1_L3, if_neg h0]
theorem gsX_X1_muster_1_q1 {NF : Nat} {l1_3 : Int32} {n7 : Nat} {l2_7 : Int32} {v7 : Nat → Int32} {f7 : Nat → Nat → Int32} {t9 : Int32} {k3 : Int32 → (Nat → Int32) → (Nat → Nat → Int32) → ((Nat → Int32) × (Nat → Nat → Int32))} (h0 : (5 ≤ l2_7)) (h1 : t9 = l1_3 + 1) : gsX_X1_muster_1_L7 NF l1_3 k3 (n7 + 1) l2_7 v7 f7 = k3 t9 v7 f7 := by
  subst h1
  simp only [gsX_X1_muster_1_L7, if_pos h0]
theorem gsX_X1_muster_1_q2 {NF : Nat} {l1_3 : Int32} {n7 : Nat} {l2_7 : Int32} {v7 : Nat → Int32} {f7 : Nat → Nat → Int32} {t12 : Int32} {t14 : Int32} {t16 : Int32} {r19 : Int32} {f21 : Nat → Nat → Int32} {t22 : Int32} {k3 : Int32 → (Nat → Int32) → (Nat → Nat → Int32) → ((Nat → Int32) × (Nat → Nat → Int32))} (h0 : ¬ (5 ≤ l2_7)) (h1 : t12 = l2_7 * 6) (h2 : t14 = 12 + t12) (h3 : t16 = t14 + l1_3) (h4 : r19 = gsX_X7_coatPart_1 NF l2_7 l1_3 v7 f7) (h5 : f21 = upd2 f7 15 (upd (f7 15) t16.toNatClampNeg r19)) (h6 : t22 = l2_7 + 1) : gsX_X1_muster_1_L7 NF l1_3 k3 (n7 + 1) l2_7 v7 f7 = gsX_X1_muster_1_L7 NF l1_3 k3 n7 t22 v7 f21 := by
  subst h1 h2 h3 h4 h5 h6
  simp only [gsX_X1_muster_1_L7, if_neg h0]
def gsX_X1_saveTo_1 (NF : Nat) (p2 : Int32) (v : Nat → Int32) (f : Nat → Nat → Int32) : (Nat → Int32) × (Nat → Nat → Int32) :=
  if p2 < 0 then
    (v, f)
  else
    if 41 ≤ p2 then
      (v, f)
    else
      let t3 : Int32 := p2 * 44
      let f5 : Nat → Nat → Int32 := upd2 f 17 (va_cpy (f 15) (f 17) (0 : Int32).toNatClampNeg (t3).toNatClampNeg (44 : Int32).toNatClampNeg)
      (v, f5)
theorem gsX_X1_saveTo_1_q0 {NF : Nat} {p2 : Int32} {v : Nat → Int32} {f : Nat → Nat → Int32} (h0 : (p2 < 0)) : gsX_X1_saveTo_1 NF p2 v f = (v, f) := by
  simp only [gsX_X1_saveTo_1, if_pos h0]
theorem gsX_X1_saveTo_1_q1 {NF : Nat} {p2 : Int32} {v : Nat → Int32} {f : Nat → Nat → Int32} (h0 : ¬ (p2 < 0)) (h1 : (41 ≤ p2)) : gsX_X1_saveTo_1 NF p2 v f = (v, f) := by
  simp only [gsX_X1_saveTo_1, if_neg h0, if_pos h1]
theorem gsX_X1_saveTo_1_q2 {NF : Nat} {p2 : Int32} {v : Nat → Int32} {f : Nat → Nat → Int32} {t3 : Int32} {f5 : Nat → Nat → Int32} (h0 : ¬ (p2 < 0)) (h1 : ¬ (41 ≤ p2)) (h2 : t3 = p2 * 44) (h3 : f5 = upd2 f 17 (va_cpy (f 15) (f 17) (0 : Int32).toNatClampNeg (t3).toNatClampNeg (44 : Int32).toNatClampNeg)) : gsX_X1_saveTo_1 NF p2 v f = (v, f5) := by
  subst h2 h3
  simp only [gsX_X1_saveTo_1, if_neg h0, if_neg h1]
def gsX_X5_forgetActs_1 (NF : Nat) (v : Nat → Int32) (f : Nat → Nat → Int32) : (Nat → Int32) × (Nat → Nat → Int32) :=
  match gsX_X1_saveTo_1 NF 0 (upd (upd (upd v 21 0) 22 0) 23 0) f with
  | (v2, f3) =>
    (v2, f3)
theorem gsX_X5_forgetActs_1_q0 {NF : Nat} {v : Nat → Int32} {f : Nat → Nat → Int32} {v2 : Nat → Int32} {f3 : Nat → Nat → Int32} (h0 : gsX_X1_saveTo_1 NF 0 (upd (upd (upd v 21 0) 22 0) 23 0) f = (v2, f3)) : gsX_X5_forgetActs_1 NF v f = (v2, f3) := by
  simp only [gsX_X5_forgetActs_1, h0]
def gsX_X5_forgetAll_1 (NF : Nat) (v : Nat → Int32) (f : Nat → Nat → Int32) : (Nat → Int32) × (Nat → Nat → Int32) :=
  match gsX_X5_forgetActs_1 NF (upd v 20 0) f with
  | (v2, f3) =>
    (v2, f3)
theorem gsX_X5_forgetAll_1_q0 {NF : Nat} {v : Nat → Int32} {f : Nat → Nat → Int32} {v2 : Nat → Int32} {f3 : Nat → Nat → Int32} (h0 : gsX_X5_forgetActs_1 NF (upd v 20 0) f = (v2, f3)) : gsX_X5_forgetAll_1 NF v f = (v2, f3) := by
  simp only [gsX_X5_forgetAll_1, h0]
def gsX_X0_clear_1 (NF : Nat) (v : Nat → Int32) (f : Nat → Nat → Int32) : (Nat → Int32) × (Nat → Nat → Int32) :=
  ((upd v 38 0), f)
theorem gsX_X0_clear_1_q0 {NF : Nat} {v : Nat → Int32} {f : Nat → Nat → Int32}  : gsX_X0_clear_1 NF v f = ((upd v 38 0), f) := by
  simp only [gsX_X0_clear_1]
def gsX_J7_fill_53178_1_L1 (NF : Nat) (p1 : Int32) : Nat → (Int32) → (Nat → Int32) → (Nat → Nat → Int32) → (Nat → Int32) × (Nat → Nat → Int32)
  | 0, _, _, _ => ((fun _ => 0), (fun _ _ => 0))
  | n1 + 1, l2_1, v1, f1 =>
    if 21 ≤ l2_1 then
      (v1, f1)
    else
      let f3 : Nat → Nat → Int32 := upd2 f1 27 (upd (f1 27) l2_1.toNatClampNeg p1)
      let t4 : Int32 := l2_1 + 1
      gsX_J7_fill_53178_1_L1 NF p1 n1 t4 v1 f3
def gsX_J7_fill_53178_1 (NF : Nat) (p1 : Int32) (v : Nat → Int32) (f : Nat → Nat → Int32) : (Nat → Int32) × (Nat → Nat → Int32) :=
  gsX_J7_fill_53178_1_L1 NF p1 (4294967296 + NF) 0 v f
theorem gsX_J7_fill_53178_1_q2 {NF : Nat} {p1 : Int32} {v : Nat → Int32} {f : Nat → Nat → Int32}  : gsX_J7_fill_53178_1 NF p1 v f = gsX_J7_fill_53178_1_L1 NF p1 (4294967296 + NF) 0 v f := by
  simp only [gsX_J7_fill_53178_1]
theorem gsX_J7_fill_53178_1_q0 {NF : Nat} {p1 : Int32} {n1 : Nat} {l2_1 : Int32} {v1 : Nat → Int32} {f1 : Nat → Nat → Int32} (h0 : (21 ≤ l2_1)) : gsX_J7_fill_53178_1_L1 NF p1 (n1 + 1) l2_1 v1 f1 = (v1, f1) := by
  simp only [gsX_J7_fill_53178_1_L1, if_pos h0]
theorem gsX_J7_fill_53178_1_q1 {NF : Nat} {p1 : Int32} {n1 : Nat} {l2_1 : Int32} {v1 : Nat → Int32} {f1 : Nat → Nat → Int32} {f3 : Nat → Nat → Int32} {t4 : Int32} (h0 : ¬ (21 ≤ l2_1)) (h1 : f3 = upd2 f1 27 (upd (f1 27) l2_1.toNatClampNeg p1)) (h2 : t4 = l2_1 + 1) : gsX_J7_fill_53178_1_L1 NF p1 (n1 + 1) l2_1 v1 f1 = gsX_J7_fill_53178_1_L1 NF p1 n1 t4 v1 f3 := by
  subst h1 h2
  simp only [gsX_J7_fill_53178_1_L1, if_neg h0]
def gsX_X8_clear_1 (NF : Nat) (v : Nat → Int32) (f : Nat → Nat → Int32) : (Nat → Int32) × (Nat → Nat → Int32) :=
  match gsX_J7_fill_53178_1 NF (-1) (upd v 41 0) f with
  | (v2, f3) =>
    (v2, f3)
theorem gsX_X8_clear_1_q0 {NF : Nat} {v : Nat → Int32} {f : Nat → Nat → Int32} {v2 : Nat → Int32} {f3 : Nat → Nat → Int32} (h0 : gsX_J7_fill_53178_1 NF (-1) (upd v 41 0) f = (v2, f3)) : gsX_X8_clear_1 NF v f = (v2, f3) := by
  simp only [gsX_X8_clear_1, h0]
def gsX_X10_regiment_1 (NF : Nat) (v : Nat → Int32) (f : Nat → Nat → Int32) : Int32 × (Nat → Int32) × (Nat → Nat → Int32) :=
  match gsX_X6_read_1 NF v f with
  | (r1, v3, f4) =>
    if r1 = 1 then
      match gsX_X7_copy_1 NF (upd v3 1 0) f4 with
      | (v7, f8) =>
        match gsX_X1_muster_1 NF v7 f8 with
        | (v10, f11) =>
          match gsX_X5_forgetAll_1 NF v10 f11 with
          | (v13, f14) =>
            match gsX_X0_clear_1 NF v13 f14 with
            | (v16, f17) =>
              match gsX_X8_clear_1 NF v16 f17 with
              | (v19, f20) =>
                ((v7 31), v19, f20)
    else
      ((-1), (upd v3 1 0), f4)
theorem gsX_X10_regiment_1_q0 {NF : Nat} {v : Nat → Int32} {f : Nat → Nat → Int32} {v3 : Nat → Int32} {f4 : Nat → Nat → Int32} {v7 : Nat → Int32} {f8 : Nat → Nat → Int32} {v10 : Nat → Int32} {f11 : Nat → Nat → Int32} {v13 : Nat → Int32} {f14 : Nat → Nat → Int32} {v16 : Nat → Int32} {f17 : Nat → Nat → Int32} {v19 : Nat → Int32} {f20 : Nat → Nat → Int32} (h0 : gsX_X6_read_1 NF v f = (1, v3, f4)) (h2 : gsX_X7_copy_1 NF (upd v3 1 0) f4 = (v7, f8)) (h3 : gsX_X1_muster_1 NF v7 f8 = (v10, f11)) (h4 : gsX_X5_forgetAll_1 NF v10 f11 = (v13, f14)) (h5 : gsX_X0_clear_1 NF v13 f14 = (v16, f17)) (h6 : gsX_X8_clear_1 NF v16 f17 = (v19, f20)) : gsX_X10_regiment_1 NF v f = ((v7 31), v19, f20) := by
  simp only [gsX_X10_regiment_1, h0, h2, h3, h4, h5, h6, ite11, ite01, if_true, if_false]
theorem gsX_X10_regiment_1_q1 {NF : Nat} {v : Nat → Int32} {f : Nat → Nat → Int32} {v3 : Nat → Int32} {f4 : Nat → Nat → Int32} (h0 : gsX_X6_read_1 NF v f = (0, v3, f4)) : gsX_X10_regiment_1 NF v f = ((-1), (upd v3 1 0), f4) := by
  simp only [gsX_X10_regiment_1, h0, ite11, ite01, if_true, if_false]
def gsX_X8_tell_1 (NF : Nat) (p1 : Int32) (p2 : Int32) (p3 : Int32) (v : Nat → Int32) (f : Nat → Nat → Int32) : Int32 × (Nat → Int32) × (Nat → Nat → Int32) :=
  if p1 < 0 then
    ((-1), v, f)
  else
    if 20 < p1 then
      ((-1), v, f)
    else
      if (v 41) < 30 then
        let f4 : Nat → Nat → Int32 := upd2 f 23 (upd (f 23) (v 41).toNatClampNeg p1)
        let f5 : Nat → Nat → Int32 := upd2 f4 24 (upd (f4 24) (v 41).toNatClampNeg (vp_nar .boolean p2))
        let f6 : Nat → Nat → Int32 := upd2 f5 25 (upd (f5 25) (v 41).toNatClampNeg p3)
        let f7 : Nat → Nat → Int32 := upd2 f6 26 (upd (f6 26) (v 41).toNatClampNeg (-1))
        let t8 : Int32 := (v 41) + 1
        let t10 : Int32 := t8 - 1
        (t10, (upd v 41 t8), f7)
      else
        ((-1), v, f)
theorem gsX_X8_tell_1_q0 {NF : Nat} {p1 : Int32} {p2 : Int32} {p3 : Int32} {v : Nat → Int32} {f : Nat → Nat → Int32} (h0 : (p1 < 0)) : gsX_X8_tell_1 NF p1 p2 p3 v f = ((-1), v, f) := by
  simp only [gsX_X8_tell_1, if_pos h0]
theorem gsX_X8_tell_1_q1 {NF : Nat} {p1 : Int32} {p2 : Int32} {p3 : Int32} {v : Nat → Int32} {f : Nat → Nat → Int32} (h0 : ¬ (p1 < 0)) (h1 : (20 < p1)) : gsX_X8_tell_1 NF p1 p2 p3 v f = ((-1), v, f) := by
  simp only [gsX_X8_tell_1, if_neg h0, if_pos h1]
theorem gsX_X8_tell_1_q2 {NF : Nat} {p1 : Int32} {p2 : Int32} {p3 : Int32} {v : Nat → Int32} {f : Nat → Nat → Int32} {f4 : Nat → Nat → Int32} {f5 : Nat → Nat → Int32} {f6 : Nat → Nat → Int32} {f7 : Nat → Nat → Int32} {t8 : Int32} {t10 : Int32} (h0 : ¬ (p1 < 0)) (h1 : ¬ (20 < p1)) (h2 : ((v 41) < 30)) (h3 : f4 = upd2 f 23 (upd (f 23) (v 41).toNatClampNeg p1)) (h4 : f5 = upd2 f4 24 (upd (f4 24) (v 41).toNatClampNeg (vp_nar .boolean p2))) (h5 : f6 = upd2 f5 25 (upd (f5 25) (v 41).toNatClampNeg p3)) (h6 : f7 = upd2 f6 26 (upd (f6 26) (v 41).toNatClampNeg (-1))) (h7 : t8 = (v 41) + 1) (h8 : t10 = t8 - 1) : gsX_X8_tell_1 NF p1 p2 p3 v f = (t10, (upd v 41 t8), f7) := by
  subst h3 h4 h5 h6 h7 h8
  simp only [gsX_X8_tell_1, if_neg h0, if_neg h1, if_pos h2]
theorem gsX_X8_tell_1_q3 {NF : Nat} {p1 : Int32} {p2 : Int32} {p3 : Int32} {v : Nat → Int32} {f : Nat → Nat → Int32} (h0 : ¬ (p1 < 0)) (h1 : ¬ (20 < p1)) (h2 : ¬ ((v 41) < 30)) : gsX_X8_tell_1 NF p1 p2 p3 v f = ((-1), v, f) := by
  simp only [gsX_X8_tell_1, if_neg h0, if_neg h1, if_neg h2]
def gsX_X10_seen_1 (NF : Nat) (p1 : Int32) (p2 : Int32) (v : Nat → Int32) (f : Nat → Nat → Int32) : Int32 × (Nat → Int32) × (Nat → Nat → Int32) :=
  if (v 31) = 0 then
    ((-1), v, f)
  else
    if (v 32) = 0 then
      ((-1), v, f)
    else
      match gsX_X8_tell_1 NF p1 p2 (v 0) v f with
      | (r3, v5, f6) =>
        (r3, v5, f6)
theorem gsX_X10_seen_1_q0 {NF : Nat} {p1 : Int32} {p2 : Int32} {v : Nat → Int32} {f : Nat → Nat → Int32} (h0 : ((v 31) = 0)) : gsX_X10_seen_1 NF p1 p2 v f = ((-1), v, f) := by
  simp only [gsX_X10_seen_1, if_pos h0]
theorem gsX_X10_seen_1_q1 {NF : Nat} {p1 : Int32} {p2 : Int32} {v : Nat → Int32} {f : Nat → Nat → Int32} {r3 : Int32} {v5 : Nat → Int32} {f6 : Nat → Nat → Int32} (h0 : ¬ ((v 31) = 0)) (h1 : ¬ ((v 32) = 0)) (h2 : gsX_X8_tell_1 NF p1 p2 (v 0) v f = (r3, v5, f6)) : gsX_X10_seen_1 NF p1 p2 v f = (r3, v5, f6) := by
  simp only [gsX_X10_seen_1, if_neg h0, if_neg h1, h2]
theorem gsX_X10_seen_1_q2 {NF : Nat} {p1 : Int32} {p2 : Int32} {v : Nat → Int32} {f : Nat → Nat → Int32} (h0 : ¬ ((v 31) = 0)) (h1 : ((v 32) = 0)) : gsX_X10_seen_1 NF p1 p2 v f = ((-1), v, f) := by
  simp only [gsX_X10_seen_1, if_neg h0, if_pos h1]
def gsX_X8_takeBack_1 (NF : Nat) (p1 : Int32) (p2 : Int32) (v : Nat → Int32) (f : Nat → Nat → Int32) : Int32 × (Nat → Int32) × (Nat → Nat → Int32) :=
  if p1 < 0 then
    (0, v, f)
  else
    if (v 41) ≤ p1 then
      (0, v, f)
    else
      if 30 ≤ p1 then
        (0, v, f)
      else
        let t8 : Int32 := f 26 (p1).toNatClampNeg
        if t8 = (-1) then
          let f10 : Nat → Nat → Int32 := upd2 f 26 (upd (f 26) p1.toNatClampNeg p2)
          (1, v, f10)
        else
          (0, v, f)
theorem gsX_X8_takeBack_1_q0 {NF : Nat} {p1 : Int32} {p2 : Int32} {v : Nat → Int32} {f : Nat → Nat → Int32} (h0 : (p1 < 0)) : gsX_X8_takeBack_1 NF p1 p2 v f = (0, v, f) := by
  simp only [gsX_X8_takeBack_1, if_pos h0]
theorem gsX_X8_takeBack_1_q1 {NF : Nat} {p1 : Int32} {p2 : Int32} {v : Nat → Int32} {f : Nat → Nat → Int32} (h0 : ¬ (p1 < 0)) (h1 : ((v 41) ≤ p1)) : gsX_X8_takeBack_1 NF p1 p2 v f = (0, v, f) := by
  simp only [gsX_X8_takeBack_1, if_neg h0, if_pos h1]
theorem gsX_X8_takeBack_1_q2 {NF : Nat} {p1 : Int32} {p2 : Int32} {v : Nat → Int32} {f : Nat → Nat → Int32} (h0 : ¬ (p1 < 0)) (h1 : ¬ ((v 41) ≤ p1)) (h2 : (30 ≤ p1)) : gsX_X8_takeBack_1 NF p1 p2 v f = (0, v, f) := by
  simp only [gsX_X8_takeBack_1, if_neg h0, if_neg h1, if_pos h2]
theorem gsX_X8_takeBack_1_q3 {NF : Nat} {p1 : Int32} {p2 : Int32} {v : Nat → Int32} {f : Nat → Nat → Int32} {t8 : Int32} {f10 : Nat → Nat → Int32} (h0 : ¬ (p1 < 0)) (h1 : ¬ ((v 41) ≤ p1)) (h2 : ¬ (30 ≤ p1)) (h3 : t8 = f 26 (p1).toNatClampNeg) (h4 : (t8 = (-1))) (h5 : f10 = upd2 f 26 (upd (f 26) p1.toNatClampNeg p2)) : gsX_X8_takeBack_1 NF p1 p2 v f = (1, v, f10) := by
  subst h3 h5
  simp only [gsX_X8_takeBack_1, if_neg h0, if_neg h1, if_neg h2, if_pos h4]
theorem gsX_X8_takeBack_1_q4 {NF : Nat} {p1 : Int32} {p2 : Int32} {v : Nat → Int32} {f : Nat → Nat → Int32} {t8 : Int32} (h0 : ¬ (p1 < 0)) (h1 : ¬ ((v 41) ≤ p1)) (h2 : ¬ (30 ≤ p1)) (h3 : t8 = f 26 (p1).toNatClampNeg) (h4 : ¬ (t8 = (-1))) : gsX_X8_takeBack_1 NF p1 p2 v f = (0, v, f) := by
  subst h3
  simp only [gsX_X8_takeBack_1, if_neg h0, if_neg h1, if_neg h2, if_neg h4]
def gsX_X10_untell_1 (NF : Nat) (p1 : Int32) (v : Nat → Int32) (f : Nat → Nat → Int32) : Int32 × (Nat → Int32) × (Nat → Nat → Int32) :=
  match gsX_X8_takeBack_1 NF p1 (v 0) v f with
  | (r1, v3, f4) =>
    if r1 = 1 then
      (1, v3, f4)
    else
      (0, v3, f4)
theorem gsX_X10_untell_1_q0 {NF : Nat} {p1 : Int32} {v : Nat → Int32} {f : Nat → Nat → Int32} {v3 : Nat → Int32} {f4 : Nat → Nat → Int32} (h0 : gsX_X8_takeBack_1 NF p1 (v 0) v f = (1, v3, f4)) : gsX_X10_untell_1 NF p1 v f = (1, v3, f4) := by
  simp only [gsX_X10_untell_1, h0, ite11, ite01, if_true, if_false]
theorem gsX_X10_untell_1_q1 {NF : Nat} {p1 : Int32} {v : Nat → Int32} {f : Nat → Nat → Int32} {v3 : Nat → Int32} {f4 : Nat → Nat → Int32} (h0 : gsX_X8_takeBack_1 NF p1 (v 0) v f = (0, v3, f4)) : gsX_X10_untell_1 NF p1 v f = (0, v3, f4) := by
  simp only [gsX_X10_untell_1, h0, ite11, ite01, if_true, if_false]
def gsX_X10_later_1 (NF : Nat) (p1 : Int32) (v : Nat → Int32) (f : Nat → Nat → Int32) : Int32 × (Nat → Int32) × (Nat → Nat → Int32) :=
  if p1 < 0 then
    ((-1), v, f)
  else
    if 1000 < p1 then
      ((-1), v, f)
    else
      let t3 : Int32 := (v 0) + p1
      if t3 ≤ 100000 then
        (t3, (upd v 0 t3), f)
      else
        ((-1), v, f)
theorem gsX_X10_later_1_q0 {NF : Nat} {p1 : Int32} {v : Nat → Int32} {f : Nat → Nat → Int32} (h0 : (p1 < 0)) : gsX_X10_later_1 NF p1 v f = ((-1), v, f) := by
  simp only [gsX_X10_later_1, if_pos h0]
theorem gsX_X10_later_1_q1 {NF : Nat} {p1 : Int32} {v : Nat → Int32} {f : Nat → Nat → Int32} (h0 : ¬ (p1 < 0)) (h1 : (1000 < p1)) : gsX_X10_later_1 NF p1 v f = ((-1), v, f) := by
  simp only [gsX_X10_later_1, if_neg h0, if_pos h1]
theorem gsX_X10_later_1_q2 {NF : Nat} {p1 : Int32} {v : Nat → Int32} {f : Nat → Nat → Int32} {t3 : Int32} (h0 : ¬ (p1 < 0)) (h1 : ¬ (1000 < p1)) (h2 : t3 = (v 0) + p1) (h3 : (t3 ≤ 100000)) : gsX_X10_later_1 NF p1 v f = (t3, (upd v 0 t3), f) := by
  subst h2
  simp only [gsX_X10_later_1, if_neg h0, if_neg h1, if_pos h3]
theorem gsX_X10_later_1_q3 {NF : Nat} {p1 : Int32} {v : Nat → Int32} {f : Nat → Nat → Int32} {t3 : Int32} (h0 : ¬ (p1 < 0)) (h1 : ¬ (1000 < p1)) (h2 : t3 = (v 0) + p1) (h3 : ¬ (t3 ≤ 100000)) : gsX_X10_later_1 NF p1 v f = ((-1), v, f) := by
  subst h2
  simp only [gsX_X10_later_1, if_neg h0, if_neg h1, if_neg h3]
def gsX_X10_commonDivisor_1_L1 (NF : Nat) : Nat → (Int32) → (Int32) → (Int32) → Int32
  | 0, _, _, _ => 0
  | n1 + 1, l2_1, l3_1, l4_1 =>
    if 100 ≤ l4_1 then
      l2_1
    else
      if l3_1 = 0 then
        l2_1
      else
        let t4 : Int32 := l2_1 - l2_1 / l3_1 * l3_1
        let t5 : Int32 := l4_1 + 1
        gsX_X10_commonDivisor_1_L1 NF n1 l3_1 t4 t5
def gsX_X10_commonDivisor_1 (NF : Nat) (p0 : Int32) (p1 : Int32) (v : Nat → Int32) (f : Nat → Nat → Int32) : Int32 :=
  gsX_X10_commonDivisor_1_L1 NF (4294967296 + NF) p0 p1 0
theorem gsX_X10_commonDivisor_1_q3 {NF : Nat} {p0 : Int32} {p1 : Int32} {v : Nat → Int32} {f : Nat → Nat → Int32}  : gsX_X10_commonDivisor_1 NF p0 p1 v f = gsX_X10_commonDivisor_1_L1 NF (4294967296 + NF) p0 p1 0 := by
  simp only [gsX_X10_commonDivisor_1]
theorem gsX_X10_commonDivisor_1_q0 {NF : Nat} {n1 : Nat} {l2_1 : Int32} {l3_1 : Int32} {l4_1 : Int32} (h0 : (100 ≤ l4_1)) : gsX_X10_commonDivisor_1_L1 NF (n1 + 1) l2_1 l3_1 l4_1 = l2_1 := by
  simp only [gsX_X10_commonDivisor_1_L1, if_pos h0]
theorem gsX_X10_commonDivisor_1_q1 {NF : Nat} {n1 : Nat} {l2_1 : Int32} {l3_1 : Int32} {l4_1 : Int32} (h0 : ¬ (100 ≤ l4_1)) (h1 : (l3_1 = 0)) : gsX_X10_commonDivisor_1_L1 NF (n1 + 1) l2_1 l3_1 l4_1 = l2_1 := by
  simp only [gsX_X10_commonDivisor_1_L1, if_neg h0, if_pos h1]
theorem gsX_X10_commonDivisor_1_q2 {NF : Nat} {n1 : Nat} {l2_1 : Int32} {l3_1 : Int32} {l4_1 : Int32} {t4 : Int32} {t5 : Int32} (h0 : ¬ (100 ≤ l4_1)) (h1 : ¬ (l3_1 = 0)) (h2 : t4 = l2_1 - l2_1 / l3_1 * l3_1) (h3 : t5 = l4_1 + 1) : gsX_X10_commonDivisor_1_L1 NF (n1 + 1) l2_1 l3_1 l4_1 = gsX_X10_commonDivisor_1_L1 NF n1 l3_1 t4 t5 := by
  subst h2 h3
  simp only [gsX_X10_commonDivisor_1_L1, if_neg h0, if_neg h1]
def gsX_X10_odds_1_L5 (NF : Nat) (p1 : Int32) (p2 : Int32) (v : Nat → Int32) (f : Nat → Nat → Int32) : Nat → (Int32) → (Int32) → (Int32) → Int32
  | 0, _, _, _ => 0
  | n5 + 1, l3_5, l4_5, l5_5 =>
    if p1 ≤ l5_5 then
      let r9 : Int32 := gsX_X10_commonDivisor_1 NF l4_5 l3_5 v f
      if 1 ≤ r9 then
        if p2 = 0 then
          let t14 : Int32 := l3_5 / r9
          t14
        else
          let t13 : Int32 := l4_5 / r9
          t13
      else
        (-1)
    else
      let t17 : Int32 := 100 - (v 36)
      let t18 : Int32 := l3_5 * t17
      let t19 : Int32 := l4_5 * 100
      let t20 : Int32 := l5_5 + 1
      gsX_X10_odds_1_L5 NF p1 p2 v f n5 t18 t19 t20
def gsX_X10_odds_1 (NF : Nat) (p1 : Int32) (p2 : Int32) (v : Nat → Int32) (f : Nat → Nat → Int32) : Int32 :=
  if p1 < 0 then
    (-1)
  else
    if 4 < p1 then
      (-1)
    else
      if p2 < 0 then
        (-1)
      else
        if p2 ≤ 1 then
          gsX_X10_odds_1_L5 NF p1 p2 v f (4294967296 + NF) 1 1 0
        else
          (-1)
theorem gsX_X10_odds_1_q0 {NF : Nat} {p1 : Int32} {p2 : Int32} {v : Nat → Int32} {f : Nat → Nat → Int32} (h0 : (p1 < 0)) : gsX_X10_odds_1 NF p1 p2 v f = (-1) := by
  simp only [gsX_X10_odds_1, if_pos h0]
theorem gsX_X10_odds_1_q1 {NF : Nat} {p1 : Int32} {p2 : Int32} {v : Nat → Int32} {f : Nat → Nat → Int32} (h0 : ¬ (p1 < 0)) (h1 : (4 < p1)) : gsX_X10_odds_1 NF p1 p2 v f = (-1) := by
  simp only [gsX_X10_odds_1, if_neg h0, if_pos h1]
theorem gsX_X10_odds_1_q2 {NF : Nat} {p1 : Int32} {p2 : Int32} {v : Nat → Int32} {f : Nat → Nat → Int32} (h0 : ¬ (p1 < 0)) (h1 : ¬ (4 < p1)) (h2 : (p2 < 0)) : gsX_X10_odds_1 NF p1 p2 v f = (-1) := by
  simp only [gsX_X10_odds_1, if_neg h0, if_neg h1, if_pos h2]
theorem gsX_X10_odds_1_q7 {NF : Nat} {p1 : Int32} {p2 : Int32} {v : Nat → Int32} {f : Nat → Nat → Int32} (h0 : ¬ (p1 < 0)) (h1 : ¬ (4 < p1)) (h2 : ¬ (p2 < 0)) (h3 : (p2 ≤ 1)) : gsX_X10_odds_1 NF p1 p2 v f = gsX_X10_odds_1_L5 NF p1 p2 v f (4294967296 + NF) 1 1 0 := by
  simp only [gsX_X10_odds_1, if_neg h0, if_neg h1, if_neg h2, if_pos h3]
theorem gsX_X10_odds_1_q8 {NF : Nat} {p1 : Int32} {p2 : Int32} {v : Nat → Int32} {f : Nat → Nat → Int32} (h0 : ¬ (p1 < 0)) (h1 : ¬ (4 < p1)) (h2 : ¬ (p2 < 0)) (h3 : ¬ (p2 ≤ 1)) : gsX_X10_odds_1 NF p1 p2 v f = (-1) := by
  simp only [gsX_X10_odds_1, if_neg h0, if_neg h1, if_neg h2, if_neg h3]
theorem gsX_X10_odds_1_q3 {NF : Nat} {p1 : Int32} {p2 : Int32} {v : Nat → Int32} {f : Nat → Nat → Int32} {n5 : Nat} {l3_5 : Int32} {l4_5 : Int32} {l5_5 : Int32} {r9 : Int32} {t13 : Int32} (h0 : (p1 ≤ l5_5)) (h1 : r9 = gsX_X10_commonDivisor_1 NF l4_5 l3_5 v f) (h2 : (1 ≤ r9)) (h3 : ¬ (p2 = 0)) (h4 : t13 = l4_5 / r9) : gsX_X10_odds_1_L5 NF p1 p2 v f (n5 + 1) l3_5 l4_5 l5_5 = t13 := by
  subst h1 h4
  simp only [gsX_X10_odds_1_L5, if_pos h0, if_pos h2, if_neg h3]
theorem gsX_X10_odds_1_q4 {NF : Nat} {p1 : Int32} {p2 : Int32} {v : Nat → Int32} {f : Nat → Nat → Int32} {n5 : Nat} {l3_5 : Int32} {l4_5 : Int32} {l5_5 : Int32} {r9 : Int32} {t14 : Int32} (h0 : (p1 ≤ l5_5)) (h1 : r9 = gsX_X10_commonDivisor_1 NF l4_5 l3_5 v f) (h2 : (1 ≤ r9)) (h3 : (p2 = 0)) (h4 : t14 = l3_5 / r9) : gsX_X10_odds_1_L5 NF p1 p2 v f (n5 + 1) l3_5 l4_5 l5_5 = t14 := by
  subst h1 h4
  simp only [gsX_X10_odds_1_L5, if_pos h0, if_pos h2, if_pos h3]
theorem gsX_X10_odds_1_q5 {NF : Nat} {p1 : Int32} {p2 : Int32} {v : Nat → Int32} {f : Nat → Nat → Int32} {n5 : Nat} {l3_5 : Int32} {l4_5 : Int32} {l5_5 : Int32} {r9 : Int32} (h0 : (p1 ≤ l5_5)) (h1 : r9 = gsX_X10_commonDivisor_1 NF l4_5 l3_5 v f) (h2 : ¬ (1 ≤ r9)) : gsX_X10_odds_1_L5 NF p1 p2 v f (n5 + 1) l3_5 l4_5 l5_5 = (-1) := by
  subst h1
  simp only [gsX_X10_odds_1_L5, if_pos h0, if_neg h2]
theorem gsX_X10_odds_1_q6 {NF : Nat} {p1 : Int32} {p2 : Int32} {v : Nat → Int32} {f : Nat → Nat → Int32} {n5 : Nat} {l3_5 : Int32} {l4_5 : Int32} {l5_5 : Int32} {t17 : Int32} {t18 : Int32} {t19 : Int32} {t20 : Int32} (h0 : ¬ (p1 ≤ l5_5)) (h1 : t17 = 100 - (v 36)) (h2 : t18 = l3_5 * t17) (h3 : t19 = l4_5 * 100) (h4 : t20 = l5_5 + 1) : gsX_X10_odds_1_L5 NF p1 p2 v f (n5 + 1) l3_5 l4_5 l5_5 = gsX_X10_odds_1_L5 NF p1 p2 v f n5 t18 t19 t20 := by
  subst h1 h2 h3 h4
  simp only [gsX_X10_odds_1_L5, if_neg h0]
def gsY_X11_four_1_L1 (NF : Nat) (p1 : Int32) : Nat → (Int32) → (Nat → Int32) → (Nat → Nat → Int32) → (Int64) → (Nat → Int64) → (Nat → Int32) × (Nat → Nat → Int32) × (Int64) × (Nat → Int64)
  | 0, _, _, _, _, _ => ((fun _ => 0), (fun _ _ => 0), 0, (fun _ => 0))
  | n1 + 1, l2_1, v1, f1, w1, g1 =>
    if l2_1 < 0 then
      (v1, f1, w1, g1)
    else
      let t3 : Int32 := p1 >>> (l2_1 &&& 31)
      let t4 : Int32 := t3 &&& 255
      let f5 : Nat → Nat → Int32 := upd2 f1 0 (upd (f1 0) (v1 0).toNatClampNeg t4)
      let t6 : Int32 := (v1 0) + 1
      let t8 : Int32 := l2_1 + (-8)
      gsY_X11_four_1_L1 NF p1 n1 t8 (upd v1 0 t6) f5 w1 g1
def gsY_X11_four_1 (NF : Nat) (p1 : Int32) (v : Nat → Int32) (f : Nat → Nat → Int32) (w : Int64) (g : Nat → Int64) : (Nat → Int32) × (Nat → Nat → Int32) × (Int64) × (Nat → Int64) :=
  gsY_X11_four_1_L1 NF p1 (4294967296 + NF) 24 v f w g
theorem gsY_X11_four_1_q2 {NF : Nat} {p1 : Int32} {v : Nat → Int32} {f : Nat → Nat → Int32} {w : Int64} {g : Nat → Int64}  : gsY_X11_four_1 NF p1 v f w g = gsY_X11_four_1_L1 NF p1 (4294967296 + NF) 24 v f w g := by
  simp only [gsY_X11_four_1]
theorem gsY_X11_four_1_q0 {NF : Nat} {p1 : Int32} {n1 : Nat} {l2_1 : Int32} {v1 : Nat → Int32} {f1 : Nat → Nat → Int32} {w1 : Int64} {g1 : Nat → Int64} (h0 : (l2_1 < 0)) : gsY_X11_four_1_L1 NF p1 (n1 + 1) l2_1 v1 f1 w1 g1 = (v1, f1, w1, g1) := by
  simp only [gsY_X11_four_1_L1, if_pos h0]
theorem gsY_X11_four_1_q1 {NF : Nat} {p1 : Int32} {n1 : Nat} {l2_1 : Int32} {v1 : Nat → Int32} {f1 : Nat → Nat → Int32} {w1 : Int64} {g1 : Nat → Int64} {t3 : Int32} {t4 : Int32} {f5 : Nat → Nat → Int32} {t6 : Int32} {t8 : Int32} (h0 : ¬ (l2_1 < 0)) (h1 : t3 = p1 >>> (l2_1 &&& 31)) (h2 : t4 = t3 &&& 255) (h3 : f5 = upd2 f1 0 (upd (f1 0) (v1 0).toNatClampNeg t4)) (h4 : t6 = (v1 0) + 1) (h5 : t8 = l2_1 + (-8)) : gsY_X11_four_1_L1 NF p1 (n1 + 1) l2_1 v1 f1 w1 g1 = gsY_X11_four_1_L1 NF p1 n1 t8 (upd v1 0 t6) f5 w1 g1 := by
  subst h1 h2 h3 h4 h5
  simp only [gsY_X11_four_1_L1, if_neg h0]
def gsY_X11_feed_1 (NF : Nat) (p1 : Int32) (p2 : Int32) (p3 : Int32) (p4 : Int32) (p5 : Int32) (v : Nat → Int32) (f : Nat → Nat → Int32) (w : Int64) (g : Nat → Int64) : Int32 × (Nat → Int32) × (Nat → Nat → Int32) × (Int64) × (Nat → Int64) :=
  let t1 : Int32 := (v 0) + 20
  if t1 ≤ 1600 then
    match gsY_X11_four_1 NF p1 v f w g with
    | (v5, f6, w7, g8) =>
      match gsY_X11_four_1 NF p2 v5 f6 w7 g8 with
      | (v11, f12, w13, g14) =>
        match gsY_X11_four_1 NF p3 v11 f12 w13 g14 with
        | (v17, f18, w19, g20) =>
          match gsY_X11_four_1 NF p4 v17 f18 w19 g20 with
          | (v23, f24, w25, g26) =>
            match gsY_X11_four_1 NF p5 v23 f24 w25 g26 with
            | (v29, f30, w31, g32) =>
              ((v29 0), v29, f30, w31, g32)
  else
    ((-1), v, f, w, g)
theorem gsY_X11_feed_1_q0 {NF : Nat} {p1 : Int32} {p2 : Int32} {p3 : Int32} {p4 : Int32} {p5 : Int32} {v : Nat → Int32} {f : Nat → Nat → Int32} {w : Int64} {g : Nat → Int64} {t1 : Int32} {v5 : Nat → Int32} {f6 : Nat → Nat → Int32} {w7 : Int64} {g8 : Nat → Int64} {v11 : Nat → Int32} {f12 : Nat → Nat → Int32} {w13 : Int64} {g14 : Nat → Int64} {v17 : Nat → Int32} {f18 : Nat → Nat → Int32} {w19 : Int64} {g20 : Nat → Int64} {v23 : Nat → Int32} {f24 : Nat → Nat → Int32} {w25 : Int64} {g26 : Nat → Int64} {v29 : Nat → Int32} {f30 : Nat → Nat → Int32} {w31 : Int64} {g32 : Nat → Int64} (h0 : t1 = (v 0) + 20) (h1 : (t1 ≤ 1600)) (h2 : gsY_X11_four_1 NF p1 v f w g = (v5, f6, w7, g8)) (h3 : gsY_X11_four_1 NF p2 v5 f6 w7 g8 = (v11, f12, w13, g14)) (h4 : gsY_X11_four_1 NF p3 v11 f12 w13 g14 = (v17, f18, w19, g20)) (h5 : gsY_X11_four_1 NF p4 v17 f18 w19 g20 = (v23, f24, w25, g26)) (h6 : gsY_X11_four_1 NF p5 v23 f24 w25 g26 = (v29, f30, w31, g32)) : gsY_X11_feed_1 NF p1 p2 p3 p4 p5 v f w g = ((v29 0), v29, f30, w31, g32) := by
  subst h0
  simp only [gsY_X11_feed_1, if_pos h1, h2, h3, h4, h5, h6]
theorem gsY_X11_feed_1_q1 {NF : Nat} {p1 : Int32} {p2 : Int32} {p3 : Int32} {p4 : Int32} {p5 : Int32} {v : Nat → Int32} {f : Nat → Nat → Int32} {w : Int64} {g : Nat → Int64} {t1 : Int32} (h0 : t1 = (v 0) + 20) (h1 : ¬ (t1 ≤ 1600)) : gsY_X11_feed_1 NF p1 p2 p3 p4 p5 v f w g = ((-1), v, f, w, g) := by
  subst h0
  simp only [gsY_X11_feed_1, if_neg h1]
def gsY_X11_end_1 (NF : Nat) (p1 : Int32) (v : Nat → Int32) (f : Nat → Nat → Int32) (w : Int64) (g : Nat → Int64) : Int32 × (Nat → Int32) × (Nat → Nat → Int32) × (Int64) × (Nat → Int64) :=
  if p1 < 0 then
    ((-1), v, f, w, g)
  else
    if p1 ≤ (v 0) then
      (p1, (upd v 0 p1), f, w, g)
    else
      ((-1), v, f, w, g)
theorem gsY_X11_end_1_q0 {NF : Nat} {p1 : Int32} {v : Nat → Int32} {f : Nat → Nat → Int32} {w : Int64} {g : Nat → Int64} (h0 : (p1 < 0)) : gsY_X11_end_1 NF p1 v f w g = ((-1), v, f, w, g) := by
  simp only [gsY_X11_end_1, if_pos h0]
theorem gsY_X11_end_1_q1 {NF : Nat} {p1 : Int32} {v : Nat → Int32} {f : Nat → Nat → Int32} {w : Int64} {g : Nat → Int64} (h0 : ¬ (p1 < 0)) (h1 : (p1 ≤ (v 0))) : gsY_X11_end_1 NF p1 v f w g = (p1, (upd v 0 p1), f, w, g) := by
  simp only [gsY_X11_end_1, if_neg h0, if_pos h1]
theorem gsY_X11_end_1_q2 {NF : Nat} {p1 : Int32} {v : Nat → Int32} {f : Nat → Nat → Int32} {w : Int64} {g : Nat → Int64} (h0 : ¬ (p1 < 0)) (h1 : ¬ (p1 ≤ (v 0))) : gsY_X11_end_1 NF p1 v f w g = ((-1), v, f, w, g) := by
  simp only [gsY_X11_end_1, if_neg h0, if_neg h1]
def gsY_X11_fault_1 (NF : Nat) (p1 : Int32) (v : Nat → Int32) (f : Nat → Nat → Int32) (w : Int64) (g : Nat → Int64) : Int32 :=
  if p1 = 0 then
    (v 1)
  else
    if p1 = 1 then
      (v 2)
    else
      (-1)
theorem gsY_X11_fault_1_q0 {NF : Nat} {p1 : Int32} {v : Nat → Int32} {f : Nat → Nat → Int32} {w : Int64} {g : Nat → Int64} (h0 : ¬ (p1 = 0)) (h1 : ¬ (p1 = 1)) : gsY_X11_fault_1 NF p1 v f w g = (-1) := by
  simp only [gsY_X11_fault_1, if_neg h0, if_neg h1]
theorem gsY_X11_fault_1_q1 {NF : Nat} {p1 : Int32} {v : Nat → Int32} {f : Nat → Nat → Int32} {w : Int64} {g : Nat → Int64} (h0 : ¬ (p1 = 0)) (h1 : (p1 = 1)) : gsY_X11_fault_1 NF p1 v f w g = (v 2) := by
  simp only [gsY_X11_fault_1, if_neg h0, if_pos h1]
theorem gsY_X11_fault_1_q2 {NF : Nat} {p1 : Int32} {v : Nat → Int32} {f : Nat → Nat → Int32} {w : Int64} {g : Nat → Int64} (h0 : (p1 = 0)) : gsY_X11_fault_1 NF p1 v f w g = (v 1) := by
  simp only [gsY_X11_fault_1, if_pos h0]
def gsY_X11_here_1 (NF : Nat) (p1 : Int32) (v : Nat → Int32) (f : Nat → Nat → Int32) (w : Int64) (g : Nat → Int64) : Int32 :=
  let t1 : Int32 := (v 3) + p1
  if (v 4) ≤ t1 then
    (-1)
  else
    let t9 : Int32 := f 0 (t1).toNatClampNeg
    t9
theorem gsY_X11_here_1_q0 {NF : Nat} {p1 : Int32} {v : Nat → Int32} {f : Nat → Nat → Int32} {w : Int64} {g : Nat → Int64} {t1 : Int32} (h0 : t1 = (v 3) + p1) (h1 : ((v 4) ≤ t1)) : gsY_X11_here_1 NF p1 v f w g = (-1) := by
  subst h0
  simp only [gsY_X11_here_1, if_pos h1]
theorem gsY_X11_here_1_q1 {NF : Nat} {p1 : Int32} {v : Nat → Int32} {f : Nat → Nat → Int32} {w : Int64} {g : Nat → Int64} {t1 : Int32} {t9 : Int32} (h0 : t1 = (v 3) + p1) (h1 : ¬ ((v 4) ≤ t1)) (h2 : t9 = f 0 (t1).toNatClampNeg) : gsY_X11_here_1 NF p1 v f w g = t9 := by
  subst h0 h2
  simp only [gsY_X11_here_1, if_neg h1]
def gsY_X11_isLetter_1 (NF : Nat) (p0 : Int32) (v : Nat → Int32) (f : Nat → Nat → Int32) (w : Int64) (g : Nat → Int64) : Int32 :=
  if p0 < 97 then
    0
  else
    if 122 < p0 then
      0
    else
      1
theorem gsY_X11_isLetter_1_q0 {NF : Nat} {p0 : Int32} {v : Nat → Int32} {f : Nat → Nat → Int32} {w : Int64} {g : Nat → Int64} (h0 : (p0 < 97)) : gsY_X11_isLetter_1 NF p0 v f w g = 0 := by
  simp only [gsY_X11_isLetter_1, if_pos h0]
theorem gsY_X11_isLetter_1_q1 {NF : Nat} {p0 : Int32} {v : Nat → Int32} {f : Nat → Nat → Int32} {w : Int64} {g : Nat → Int64} (h0 : ¬ (p0 < 97)) (h1 : (122 < p0)) : gsY_X11_isLetter_1 NF p0 v f w g = 0 := by
  simp only [gsY_X11_isLetter_1, if_neg h0, if_pos h1]
theorem gsY_X11_isLetter_1_q2 {NF : Nat} {p0 : Int32} {v : Nat → Int32} {f : Nat → Nat → Int32} {w : Int64} {g : Nat → Int64} (h0 : ¬ (p0 < 97)) (h1 : ¬ (122 < p0)) : gsY_X11_isLetter_1 NF p0 v f w g = 1 := by
  simp only [gsY_X11_isLetter_1, if_neg h0, if_neg h1]
def gsY_X11_isDigit_1 (NF : Nat) (p0 : Int32) (v : Nat → Int32) (f : Nat → Nat → Int32) (w : Int64) (g : Nat → Int64) : Int32 :=
  if p0 < 48 then
    0
  else
    if 57 < p0 then
      0
    else
      1
theorem gsY_X11_isDigit_1_q0 {NF : Nat} {p0 : Int32} {v : Nat → Int32} {f : Nat → Nat → Int32} {w : Int64} {g : Nat → Int64} (h0 : (p0 < 48)) : gsY_X11_isDigit_1 NF p0 v f w g = 0 := by
  simp only [gsY_X11_isDigit_1, if_pos h0]
theorem gsY_X11_isDigit_1_q1 {NF : Nat} {p0 : Int32} {v : Nat → Int32} {f : Nat → Nat → Int32} {w : Int64} {g : Nat → Int64} (h0 : ¬ (p0 < 48)) (h1 : (57 < p0)) : gsY_X11_isDigit_1 NF p0 v f w g = 0 := by
  simp only [gsY_X11_isDigit_1, if_neg h0, if_pos h1]
theorem gsY_X11_isDigit_1_q2 {NF : Nat} {p0 : Int32} {v : Nat → Int32} {f : Nat → Nat → Int32} {w : Int64} {g : Nat → Int64} (h0 : ¬ (p0 < 48)) (h1 : ¬ (57 < p0)) : gsY_X11_isDigit_1 NF p0 v f w g = 1 := by
  simp only [gsY_X11_isDigit_1, if_neg h0, if_neg h1]
def gsY_X11_isSign_1 (NF : Nat) (p0 : Int32) (v : Nat → Int32) (f : Nat → Nat → Int32) (w : Int64) (g : Nat → Int64) : Int32 :=
  if p0 = 59 then
    1
  else
    if p0 = 40 then
      1
    else
      if p0 = 41 then
        1
      else
        if p0 = 60 then
          1
        else
          if p0 = 62 then
            1
          else
            if p0 = 61 then
              1
            else
              if p0 = 43 then
                1
              else
                if p0 = 45 then
                  1
                else
                  if p0 = 42 then
                    1
                  else
                    if p0 = 47 then
                      1
                    else
                      if p0 = 37 then
                        1
                      else
                        0
theorem gsY_X11_isSign_1_q0 {NF : Nat} {p0 : Int32} {v : Nat → Int32} {f : Nat → Nat → Int32} {w : Int64} {g : Nat → Int64} (h0 : (p0 = 59)) : gsY_X11_isSign_1 NF p0 v f w g = 1 := by
  simp only [gsY_X11_isSign_1, if_pos h0]
theorem gsY_X11_isSign_1_q1 {NF : Nat} {p0 : Int32} {v : Nat → Int32} {f : Nat → Nat → Int32} {w : Int64} {g : Nat → Int64} (h0 : ¬ (p0 = 59)) (h1 : (p0 = 40)) : gsY_X11_isSign_1 NF p0 v f w g = 1 := by
  simp only [gsY_X11_isSign_1, if_neg h0, if_pos h1]
theorem gsY_X11_isSign_1_q2 {NF : Nat} {p0 : Int32} {v : Nat → Int32} {f : Nat → Nat → Int32} {w : Int64} {g : Nat → Int64} (h0 : ¬ (p0 = 59)) (h1 : ¬ (p0 = 40)) (h2 : (p0 = 41)) : gsY_X11_isSign_1 NF p0 v f w g = 1 := by
  simp only [gsY_X11_isSign_1, if_neg h0, if_neg h1, if_pos h2]
theorem gsY_X11_isSign_1_q3 {NF : Nat} {p0 : Int32} {v : Nat → Int32} {f : Nat → Nat → Int32} {w : Int64} {g : Nat → Int64} (h0 : ¬ (p0 = 59)) (h1 : ¬ (p0 = 40)) (h2 : ¬ (p0 = 41)) (h3 : (p0 = 60)) : gsY_X11_isSign_1 NF p0 v f w g = 1 := by
  simp only [gsY_X11_isSign_1, if_neg h0, if_neg h1, if_neg h2, if_pos h3]
theorem gsY_X11_isSign_1_q4 {NF : Nat} {p0 : Int32} {v : Nat → Int32} {f : Nat → Nat → Int32} {w : Int64} {g : Nat → Int64} (h0 : ¬ (p0 = 59)) (h1 : ¬ (p0 = 40)) (h2 : ¬ (p0 = 41)) (h3 : ¬ (p0 = 60)) (h4 : (p0 = 62)) : gsY_X11_isSign_1 NF p0 v f w g = 1 := by
  simp only [gsY_X11_isSign_1, if_neg h0, if_neg h1, if_neg h2, if_neg h3, if_pos h4]
theorem gsY_X11_isSign_1_q5 {NF : Nat} {p0 : Int32} {v : Nat → Int32} {f : Nat → Nat → Int32} {w : Int64} {g : Nat → Int64} (h0 : ¬ (p0 = 59)) (h1 : ¬ (p0 = 40)) (h2 : ¬ (p0 = 41)) (h3 : ¬ (p0 = 60)) (h4 : ¬ (p0 = 62)) (h5 : (p0 = 61)) : gsY_X11_isSign_1 NF p0 v f w g = 1 := by
  simp only [gsY_X11_isSign_1, if_neg h0, if_neg h1, if_neg h2, if_neg h3, if_neg h4, if_pos h5]
theorem gsY_X11_isSign_1_q6 {NF : Nat} {p0 : Int32} {v : Nat → Int32} {f : Nat → Nat → Int32} {w : Int64} {g : Nat → Int64} (h0 : ¬ (p0 = 59)) (h1 : ¬ (p0 = 40)) (h2 : ¬ (p0 = 41)) (h3 : ¬ (p0 = 60)) (h4 : ¬ (p0 = 62)) (h5 : ¬ (p0 = 61)) (h6 : (p0 = 43)) : gsY_X11_isSign_1 NF p0 v f w g = 1 := by
  simp only [gsY_X11_isSign_1, if_neg h0, if_neg h1, if_neg h2, if_neg h3, if_neg h4, if_neg h5, if_pos h6]
theorem gsY_X11_isSign_1_q7 {NF : Nat} {p0 : Int32} {v : Nat → Int32} {f : Nat → Nat → Int32} {w : Int64} {g : Nat → Int64} (h0 : ¬ (p0 = 59)) (h1 : ¬ (p0 = 40)) (h2 : ¬ (p0 = 41)) (h3 : ¬ (p0 = 60)) (h4 : ¬ (p0 = 62)) (h5 : ¬ (p0 = 61)) (h6 : ¬ (p0 = 43)) (h7 : (p0 = 45)) : gsY_X11_isSign_1 NF p0 v f w g = 1 := by
  simp only [gsY_X11_isSign_1, if_neg h0, if_neg h1, if_neg h2, if_neg h3, if_neg h4, if_neg h5, if_neg h6, if_pos h7]
theorem gsY_X11_isSign_1_q8 {NF : Nat} {p0 : Int32} {v : Nat → Int32} {f : Nat → Nat → Int32} {w : Int64} {g : Nat → Int64} (h0 : ¬ (p0 = 59)) (h1 : ¬ (p0 = 40)) (h2 : ¬ (p0 = 41)) (h3 : ¬ (p0 = 60)) (h4 : ¬ (p0 = 62)) (h5 : ¬ (p0 = 61)) (h6 : ¬ (p0 = 43)) (h7 : ¬ (p0 = 45)) (h8 : (p0 = 42)) : gsY_X11_isSign_1 NF p0 v f w g = 1 := by
  simp only [gsY_X11_isSign_1, if_neg h0, if_neg h1, if_neg h2, if_neg h3, if_neg h4, if_neg h5, if_neg h6, if_neg h7, if_pos h8]
theorem gsY_X11_isSign_1_q9 {NF : Nat} {p0 : Int32} {v : Nat → Int32} {f : Nat → Nat → Int32} {w : Int64} {g : Nat → Int64} (h0 : ¬ (p0 = 59)) (h1 : ¬ (p0 = 40)) (h2 : ¬ (p0 = 41)) (h3 : ¬ (p0 = 60)) (h4 : ¬ (p0 = 62)) (h5 : ¬ (p0 = 61)) (h6 : ¬ (p0 = 43)) (h7 : ¬ (p0 = 45)) (h8 : ¬ (p0 = 42)) (h9 : (p0 = 47)) : gsY_X11_isSign_1 NF p0 v f w g = 1 := by
  simp only [gsY_X11_isSign_1, if_neg h0, if_neg h1, if_neg h2, if_neg h3, if_neg h4, if_neg h5, if_neg h6, if_neg h7, if_neg h8, if_pos h9]
theorem gsY_X11_isSign_1_q10 {NF : Nat} {p0 : Int32} {v : Nat → Int32} {f : Nat → Nat → Int32} {w : Int64} {g : Nat → Int64} (h0 : ¬ (p0 = 59)) (h1 : ¬ (p0 = 40)) (h2 : ¬ (p0 = 41)) (h3 : ¬ (p0 = 60)) (h4 : ¬ (p0 = 62)) (h5 : ¬ (p0 = 61)) (h6 : ¬ (p0 = 43)) (h7 : ¬ (p0 = 45)) (h8 : ¬ (p0 = 42)) (h9 : ¬ (p0 = 47)) (h10 : ¬ (p0 = 37)) : gsY_X11_isSign_1 NF p0 v f w g = 0 := by
  simp only [gsY_X11_isSign_1, if_neg h0, if_neg h1, if_neg h2, if_neg h3, if_neg h4, if_neg h5, if_neg h6, if_neg h7, if_neg h8, if_neg h9, if_neg h10]
theorem gsY_X11_isSign_1_q11 {NF : Nat} {p0 : Int32} {v : Nat → Int32} {f : Nat → Nat → Int32} {w : Int64} {g : Nat → Int64} (h0 : ¬ (p0 = 59)) (h1 : ¬ (p0 = 40)) (h2 : ¬ (p0 = 41)) (h3 : ¬ (p0 = 60)) (h4 : ¬ (p0 = 62)) (h5 : ¬ (p0 = 61)) (h6 : ¬ (p0 = 43)) (h7 : ¬ (p0 = 45)) (h8 : ¬ (p0 = 42)) (h9 : ¬ (p0 = 47)) (h10 : (p0 = 37)) : gsY_X11_isSign_1 NF p0 v f w g = 1 := by
  simp only [gsY_X11_isSign_1, if_neg h0, if_neg h1, if_neg h2, if_neg h3, if_neg h4, if_neg h5, if_neg h6, if_neg h7, if_neg h8, if_neg h9, if_pos h10]
def gsY_X11_token_1_L20 (NF : Nat) (v1 : Nat → Int32) : Nat → (Int32) → (Nat → Int32) → (Nat → Nat → Int32) → (Int64) → (Nat → Int64) → (Nat → Int32) × (Nat → Nat → Int32) × (Int64) × (Nat → Int64)
  | 0, _, _, _, _, _ => ((fun _ => 0), (fun _ _ => 0), 0, (fun _ => 0))
  | n20 + 1, l2_20, v20, f20, w20, g20 =>
    let r21 : Int32 := gsY_X11_here_1 NF l2_20 v20 f20 w20 g20
    if gsY_X11_isLetter_1 NF r21 v20 f20 w20 g20 = 1 then
      if 8 ≤ l2_20 then
        let t28 : Int32 := l2_20 + 1
        gsY_X11_token_1_L20 NF v1 n20 t28 v20 f20 w20 g20
      else
        let j31 : Int64 := w20 <<< ((8 : Int32).toInt64 &&& 63)
        let r32 : Int32 := gsY_X11_here_1 NF l2_20 v20 f20 w20 g20
        let j35 : Int64 := r32.toInt64
        let j36 : Int64 := j31 ||| j35
        let t37 : Int32 := l2_20 + 1
        gsY_X11_token_1_L20 NF v1 n20 t37 v20 f20 j36 g20
    else
      if l2_20 ≤ 8 then
        let t41 : Int32 := (v1 3) + l2_20
        ((upd (upd v20 5 1) 3 t41), f20, w20, g20)
      else
        ((upd v20 5 3), f20, w20, g20)
def gsY_X11_token_1_L47 (NF : Nat) (v1 : Nat → Int32) : Nat → (Int32) → (Nat → Int32) → (Nat → Nat → Int32) → (Int64) → (Nat → Int64) → (Nat → Int32) × (Nat → Nat → Int32) × (Int64) × (Nat → Int64)
  | 0, _, _, _, _, _ => ((fun _ => 0), (fun _ _ => 0), 0, (fun _ => 0))
  | n47 + 1, l2_47, v47, f47, w47, g47 =>
    let r48 : Int32 := gsY_X11_here_1 NF l2_47 v47 f47 w47 g47
    if gsY_X11_isDigit_1 NF r48 v47 f47 w47 g47 = 1 then
      if 4 ≤ l2_47 then
        let t55 : Int32 := l2_47 + 1
        gsY_X11_token_1_L47 NF v1 n47 t55 v47 f47 w47 g47
      else
        let t58 : Int32 := 10 * (v47 7)
        let r59 : Int32 := gsY_X11_here_1 NF l2_47 v47 f47 w47 g47
        let t62 : Int32 := t58 + r59
        let t63 : Int32 := t62 - 48
        let t64 : Int32 := l2_47 + 1
        gsY_X11_token_1_L47 NF v1 n47 t64 (upd v47 7 t63) f47 w47 g47
    else
      if 4 < l2_47 then
        ((upd v47 5 3), f47, w47, g47)
      else
        let r68 : Int32 := gsY_X11_here_1 NF l2_47 v47 f47 w47 g47
        if gsY_X11_isLetter_1 NF r68 v47 f47 w47 g47 = 1 then
          ((upd v47 5 3), f47, w47, g47)
        else
          let t74 : Int32 := (v1 3) + l2_47
          ((upd (upd v47 5 2) 3 t74), f47, w47, g47)
def gsY_X11_token_1_L1 (NF : Nat) : Nat → (Nat → Int32) → (Nat → Nat → Int32) → (Int64) → (Nat → Int64) → (Nat → Int32) × (Nat → Nat → Int32) × (Int64) × (Nat → Int64)
  | 0, _, _, _, _ => ((fun _ => 0), (fun _ _ => 0), 0, (fun _ => 0))
  | n1 + 1, v1, f1, w1, g1 =>
    let r3 : Int32 := gsY_X11_here_1 NF 0 v1 f1 w1 g1
    if r3 = 32 then
      let t7 : Int32 := (v1 3) + 1
      gsY_X11_token_1_L1 NF n1 (upd v1 3 t7) f1 w1 g1
    else
      let r9 : Int32 := gsY_X11_here_1 NF 0 v1 f1 w1 g1
      if r9 = 10 then
        let t85 : Int32 := (v1 3) + 1
        gsY_X11_token_1_L1 NF n1 (upd v1 3 t85) f1 w1 g1
      else
        let r13 : Int32 := gsY_X11_here_1 NF 0 (upd v1 6 (v1 3)) f1 w1 g1
        if 0 ≤ r13 then
          if gsY_X11_isLetter_1 NF r13 (upd (upd v1 6 (v1 3)) 7 0) f1 0 g1 = 1 then
            gsY_X11_token_1_L20 NF v1 (4294967296 + NF) 0 (upd (upd v1 6 (v1 3)) 7 0) f1 0 g1
          else
            if gsY_X11_isDigit_1 NF r13 (upd (upd v1 6 (v1 3)) 7 0) f1 0 g1 = 1 then
              gsY_X11_token_1_L47 NF v1 (4294967296 + NF) 0 (upd (upd v1 6 (v1 3)) 7 0) f1 0 g1
            else
              if gsY_X11_isSign_1 NF r13 (upd (upd v1 6 (v1 3)) 7 0) f1 0 g1 = 1 then
                if r13 = 3 then
                  ((upd (upd (upd v1 6 (v1 3)) 7 0) 5 r13), f1, 0, g1)
                else
                  let t81 : Int32 := (v1 3) + 1
                  ((upd (upd (upd (upd v1 6 (v1 3)) 7 0) 5 r13) 3 t81), f1, 0, g1)
              else
                ((upd (upd (upd v1 6 (v1 3)) 7 0) 5 3), f1, 0, g1)
        else
          let t83 : Int32 := (v1 3) + 0
          ((upd (upd (upd (upd v1 6 (v1 3)) 7 0) 5 0) 3 t83), f1, 0, g1)
def gsY_X11_token_1 (NF : Nat) (v : Nat → Int32) (f : Nat → Nat → Int32) (w : Int64) (g : Nat → Int64) : (Nat → Int32) × (Nat → Nat → Int32) × (Int64) × (Nat → Int64) :=
  gsY_X11_token_1_L1 NF (4294967296 + NF) v f w g
theorem gsY_X11_token_1_q17 {NF : Nat} {v : Nat → Int32} {f : Nat → Nat → Int32} {w : Int64} {g : Nat → Int64}  : gsY_X11_token_1 NF v f w g = gsY_X11_token_1_L1 NF (4294967296 + NF) v f w g := by
  simp only [gsY_X11_token_1]
theorem gsY_X11_token_1_q0 {NF : Nat} {n1 : Nat} {v1 : Nat → Int32} {f1 : Nat → Nat → Int32} {w1 : Int64} {g1 : Nat → Int64} {r3 : Int32} {t7 : Int32} (h0 : r3 = gsY_X11_here_1 NF 0 v1 f1 w1 g1) (h1 : (r3 = 32)) (h2 : t7 = (v1 3) + 1) : gsY_X11_token_1_L1 NF (n1 + 1) v1 f1 w1 g1 = gsY_X11_token_1_L1 NF n1 (upd v1 3 t7) f1 w1 g1 := by
  subst h0 h2
  simp only [gsY_X11_token_1_L1, if_pos h1]
theorem gsY_X11_token_1_q5 {NF : Nat} {n1 : Nat} {v1 : Nat → Int32} {f1 : Nat → Nat → Int32} {w1 : Int64} {g1 : Nat → Int64} {r3 : Int32} {r9 : Int32} {r13 : Int32} (h0 : r3 = gsY_X11_here_1 NF 0 v1 f1 w1 g1) (h1 : ¬ (r3 = 32)) (h2 : r9 = gsY_X11_here_1 NF 0 v1 f1 w1 g1) (h3 : ¬ (r9 = 10)) (h4 : r13 = gsY_X11_here_1 NF 0 (upd v1 6 (v1 3)) f1 w1 g1) (h5 : (0 ≤ r13)) (h6 : gsY_X11_isLetter_1 NF r13 (upd (upd v1 6 (v1 3)) 7 0) f1 0 g1 = 1) : gsY_X11_token_1_L1 NF (n1 + 1) v1 f1 w1 g1 = gsY_X11_token_1_L20 NF v1 (4294967296 + NF) 0 (upd (upd v1 6 (v1 3)) 7 0) f1 0 g1 := by
  subst h0 h2 h4
  simp only [gsY_X11_token_1_L1, if_neg h1, if_neg h3, if_pos h5, h6, ite11, ite01, if_true, if_false]
theorem gsY_X11_token_1_q11 {NF : Nat} {n1 : Nat} {v1 : Nat → Int32} {f1 : Nat → Nat → Int32} {w1 : Int64} {g1 : Nat → Int64} {r3 : Int32} {r9 : Int32} {r13 : Int32} (h0 : r3 = gsY_X11_here_1 NF 0 v1 f1 w1 g1) (h1 : ¬ (r3 = 32)) (h2 : r9 = gsY_X11_here_1 NF 0 v1 f1 w1 g1) (h3 : ¬ (r9 = 10)) (h4 : r13 = gsY_X11_here_1 NF 0 (upd v1 6 (v1 3)) f1 w1 g1) (h5 : (0 ≤ r13)) (h6 : gsY_X11_isLetter_1 NF r13 (upd (upd v1 6 (v1 3)) 7 0) f1 0 g1 = 0) (h7 : gsY_X11_isDigit_1 NF r13 (upd (upd v1 6 (v1 3)) 7 0) f1 0 g1 = 1) : gsY_X11_token_1_L1 NF (n1 + 1) v1 f1 w1 g1 = gsY_X11_token_1_L47 NF v1 (4294967296 + NF) 0 (upd (upd v1 6 (v1 3)) 7 0) f1 0 g1 := by
  subst h0 h2 h4
  simp only [gsY_X11_token_1_L1, if_neg h1, if_neg h3, if_pos h5, h6, h7, ite11, ite01, if_true, if_false]
theorem gsY_X11_token_1_q12 {NF : Nat} {n1 : Nat} {v1 : Nat → Int32} {f1 : Nat → Nat → Int32} {w1 : Int64} {g1 : Nat → Int64} {r3 : Int32} {r9 : Int32} {r13 : Int32} (h0 : r3 = gsY_X11_here_1 NF 0 v1 f1 w1 g1) (h1 : ¬ (r3 = 32)) (h2 : r9 = gsY_X11_here_1 NF 0 v1 f1 w1 g1) (h3 : ¬ (r9 = 10)) (h4 : r13 = gsY_X11_here_1 NF 0 (upd v1 6 (v1 3)) f1 w1 g1) (h5 : (0 ≤ r13)) (h6 : gsY_X11_isLetter_1 NF r13 (upd (upd v1 6 (v1 3)) 7 0) f1 0 g1 = 0) (h7 : gsY_X11_isDigit_1 NF r13 (upd (upd v1 6 (v1 3)) 7 0) f1 0 g1 = 0) (h8 : gsY_X11_isSign_1 NF r13 (upd (upd v1 6 (v1 3)) 7 0) f1 0 g1 = 1) (h9 : (r13 = 3)) : gsY_X11_token_1_L1 NF (n1 + 1) v1 f1 w1 g1 = ((upd (upd (upd v1 6 (v1 3)) 7 0) 5 r13), f1, 0, g1) := by
  subst h0 h2 h4
  simp only [gsY_X11_token_1_L1, if_neg h1, if_neg h3, if_pos h5, h6, h7, h8, if_pos h9, ite11, ite01, if_true, if_false]
theorem gsY_X11_token_1_q13 {NF : Nat} {n1 : Nat} {v1 : Nat → Int32} {f1 : Nat → Nat → Int32} {w1 : Int64} {g1 : Nat → Int64} {r3 : Int32} {r9 : Int32} {r13 : Int32} {t81 : Int32} (h0 : r3 = gsY_X11_here_1 NF 0 v1 f1 w1 g1) (h1 : ¬ (r3 = 32)) (h2 : r9 = gsY_X11_here_1 NF 0 v1 f1 w1 g1) (h3 : ¬ (r9 = 10)) (h4 : r13 = gsY_X11_here_1 NF 0 (upd v1 6 (v1 3)) f1 w1 g1) (h5 : (0 ≤ r13)) (h6 : gsY_X11_isLetter_1 NF r13 (upd (upd v1 6 (v1 3)) 7 0) f1 0 g1 = 0) (h7 : gsY_X11_isDigit_1 NF r13 (upd (upd v1 6 (v1 3)) 7 0) f1 0 g1 = 0) (h8 : gsY_X11_isSign_1 NF r13 (upd (upd v1 6 (v1 3)) 7 0) f1 0 g1 = 1) (h9 : ¬ (r13 = 3)) (h10 : t81 = (v1 3) + 1) : gsY_X11_token_1_L1 NF (n1 + 1) v1 f1 w1 g1 = ((upd (upd (upd (upd v1 6 (v1 3)) 7 0) 5 r13) 3 t81), f1, 0, g1) := by
  subst h0 h2 h4 h10
  simp only [gsY_X11_token_1_L1, if_neg h1, if_neg h3, if_pos h5, h6, h7, h8, if_neg h9, ite11, ite01, if_true, if_false]
theorem gsY_X11_token_1_q14 {NF : Nat} {n1 : Nat} {v1 : Nat → Int32} {f1 : Nat → Nat → Int32} {w1 : Int64} {g1 : Nat → Int64} {r3 : Int32} {r9 : Int32} {r13 : Int32} (h0 : r3 = gsY_X11_here_1 NF 0 v1 f1 w1 g1) (h1 : ¬ (r3 = 32)) (h2 : r9 = gsY_X11_here_1 NF 0 v1 f1 w1 g1) (h3 : ¬ (r9 = 10)) (h4 : r13 = gsY_X11_here_1 NF 0 (upd v1 6 (v1 3)) f1 w1 g1) (h5 : (0 ≤ r13)) (h6 : gsY_X11_isLetter_1 NF r13 (upd (upd v1 6 (v1 3)) 7 0) f1 0 g1 = 0) (h7 : gsY_X11_isDigit_1 NF r13 (upd (upd v1 6 (v1 3)) 7 0) f1 0 g1 = 0) (h8 : gsY_X11_isSign_1 NF r13 (upd (upd v1 6 (v1 3)) 7 0) f1 0 g1 = 0) : gsY_X11_token_1_L1 NF (n1 + 1) v1 f1 w1 g1 = ((upd (upd (upd v1 6 (v1 3)) 7 0) 5 3), f1, 0, g1) := by
  subst h0 h2 h4
  simp only [gsY_X11_token_1_L1, if_neg h1, if_neg h3, if_pos h5, h6, h7, h8, ite11, ite01, if_true, if_false]
theorem gsY_X11_token_1_q15 {NF : Nat} {n1 : Nat} {v1 : Nat → Int32} {f1 : Nat → Nat → Int32} {w1 : Int64} {g1 : Nat → Int64} {r3 : Int32} {r9 : Int32} {r13 : Int32} {t83 : Int32} (h0 : r3 = gsY_X11_here_1 NF 0 v1 f1 w1 g1) (h1 : ¬ (r3 = 32)) (h2 : r9 = gsY_X11_here_1 NF 0 v1 f1 w1 g1) (h3 : ¬ (r9 = 10)) (h4 : r13 = gsY_X11_here_1 NF 0 (upd v1 6 (v1 3)) f1 w1 g1) (h5 : ¬ (0 ≤ r13)) (h6 : t83 = (v1 3) + 0) : gsY_X11_token_1_L1 NF (n1 + 1) v1 f1 w1 g1 = ((upd (upd (upd (upd v1 6 (v1 3)) 7 0) 5 0) 3 t83), f1, 0, g1) := by
  subst h0 h2 h4 h6
  simp only [gsY_X11_token_1_L1, if_neg h1, if_neg h3, if_neg h5]
theorem gsY_X11_token_1_q16 {NF : Nat} {n1 : Nat} {v1 : Nat → Int32} {f1 : Nat → Nat → Int32} {w1 : Int64} {g1 : Nat → Int64} {r3 : Int32} {r9 : Int32} {t85 : Int32} (h0 : r3 = gsY_X11_here_1 NF 0 v1 f1 w1 g1) (h1 : ¬ (r3 = 32)) (h2 : r9 = gsY_X11_here_1 NF 0 v1 f1 w1 g1) (h3 : (r9 = 10)) (h4 : t85 = (v1 3) + 1) : gsY_X11_token_1_L1 NF (n1 + 1) v1 f1 w1 g1 = gsY_X11_token_1_L1 NF n1 (upd v1 3 t85) f1 w1 g1 := by
  subst h0 h2 h4
  simp only [gsY_X11_token_1_L1, if_neg h1, if_pos h3]
theorem gsY_X11_token_1_q1 {NF : Nat} {v1 : Nat → Int32} {n20 : Nat} {l2_20 : Int32} {v20 : Nat → Int32} {f20 : Nat → Nat → Int32} {w20 : Int64} {g20 : Nat → Int64} {r21 : Int32} {t28 : Int32} (h0 : r21 = gsY_X11_here_1 NF l2_20 v20 f20 w20 g20) (h1 : gsY_X11_isLetter_1 NF r21 v20 f20 w20 g20 = 1) (h2 : (8 ≤ l2_20)) (h3 : t28 = l2_20 + 1) : gsY_X11_token_1_L20 NF v1 (n20 + 1) l2_20 v20 f20 w20 g20 = gsY_X11_token_1_L20 NF v1 n20 t28 v20 f20 w20 g20 := by
  subst h0 h3
  simp only [gsY_X11_token_1_L20, h1, if_pos h2, ite11, ite01, if_true, if_false]
theorem gsY_X11_token_1_q2 {NF : Nat} {v1 : Nat → Int32} {n20 : Nat} {l2_20 : Int32} {v20 : Nat → Int32} {f20 : Nat → Nat → Int32} {w20 : Int64} {g20 : Nat → Int64} {r21 : Int32} {j31 : Int64} {r32 : Int32} {j35 : Int64} {j36 : Int64} {t37 : Int32} (h0 : r21 = gsY_X11_here_1 NF l2_20 v20 f20 w20 g20) (h1 : gsY_X11_isLetter_1 NF r21 v20 f20 w20 g20 = 1) (h2 : ¬ (8 ≤ l2_20)) (h3 : j31 = w20 <<< ((8 : Int32).toInt64 &&& 63)) (h4 : r32 = gsY_X11_here_1 NF l2_20 v20 f20 w20 g20) (h5 : j35 = r32.toInt64) (h6 : j36 = j31 ||| j35) (h7 : t37 = l2_20 + 1) : gsY_X11_token_1_L20 NF v1 (n20 + 1) l2_20 v20 f20 w20 g20 = gsY_X11_token_1_L20 NF v1 n20 t37 v20 f20 j36 g20 := by
  subst h0 h3 h4 h5 h6 h7
  simp only [gsY_X11_token_1_L20, h1, if_neg h2, ite11, ite01, if_true, if_false]
theorem gsY_X11_token_1_q3 {NF : Nat} {v1 : Nat → Int32} {n20 : Nat} {l2_20 : Int32} {v20 : Nat → Int32} {f20 : Nat → Nat → Int32} {w20 : Int64} {g20 : Nat → Int64} {r21 : Int32} {t41 : Int32} (h0 : r21 = gsY_X11_here_1 NF l2_20 v20 f20 w20 g20) (h1 : gsY_X11_isLetter_1 NF r21 v20 f20 w20 g20 = 0) (h2 : (l2_20 ≤ 8)) (h3 : t41 = (v1 3) + l2_20) : gsY_X11_token_1_L20 NF v1 (n20 + 1) l2_20 v20 f20 w20 g20 = ((upd (upd v20 5 1) 3 t41), f20, w20, g20) := by
  subst h0 h3
  simp only [gsY_X11_token_1_L20, h1, if_pos h2, ite11, ite01, if_true, if_false]
theorem gsY_X11_token_1_q4 {NF : Nat} {v1 : Nat → Int32} {n20 : Nat} {l2_20 : Int32} {v20 : Nat → Int32} {f20 : Nat → Nat → Int32} {w20 : Int64} {g20 : Nat → Int64} {r21 : Int32} (h0 : r21 = gsY_X11_here_1 NF l2_20 v20 f20 w20 g20) (h1 : gsY_X11_isLetter_1 NF r21 v20 f20 w20 g20 = 0) (h2 : ¬ (l2_20 ≤ 8)) : gsY_X11_token_1_L20 NF v1 (n20 + 1) l2_20 v20 f20 w20 g20 = ((upd v20 5 3), f20, w20, g20) := by
  subst h0
  simp only [gsY_X11_token_1_L20, h1, if_neg h2, ite11, ite01, if_true, if_false]
theorem gsY_X11_token_1_q6 {NF : Nat} {v1 : Nat → Int32} {n47 : Nat} {l2_47 : Int32} {v47 : Nat → Int32} {f47 : Nat → Nat → Int32} {w47 : Int64} {g47 : Nat → Int64} {r48 : Int32} {t55 : Int32} (h0 : r48 = gsY_X11_here_1 NF l2_47 v47 f47 w47 g47) (h1 : gsY_X11_isDigit_1 NF r48 v47 f47 w47 g47 = 1) (h2 : (4 ≤ l2_47)) (h3 : t55 = l2_47 + 1) : gsY_X11_token_1_L47 NF v1 (n47 + 1) l2_47 v47 f47 w47 g47 = gsY_X11_token_1_L47 NF v1 n47 t55 v47 f47 w47 g47 := by
  subst h0 h3
  simp only [gsY_X11_token_1_L47, h1, if_pos h2, ite11, ite01, if_true, if_false]
theorem gsY_X11_token_1_q7 {NF : Nat} {v1 : Nat → Int32} {n47 : Nat} {l2_47 : Int32} {v47 : Nat → Int32} {f47 : Nat → Nat → Int32} {w47 : Int64} {g47 : Nat → Int64} {r48 : Int32} {t58 : Int32} {r59 : Int32} {t62 : Int32} {t63 : Int32} {t64 : Int32} (h0 : r48 = gsY_X11_here_1 NF l2_47 v47 f47 w47 g47) (h1 : gsY_X11_isDigit_1 NF r48 v47 f47 w47 g47 = 1) (h2 : ¬ (4 ≤ l2_47)) (h3 : t58 = 10 * (v47 7)) (h4 : r59 = gsY_X11_here_1 NF l2_47 v47 f47 w47 g47) (h5 : t62 = t58 + r59) (h6 : t63 = t62 - 48) (h7 : t64 = l2_47 + 1) : gsY_X11_token_1_L47 NF v1 (n47 + 1) l2_47 v47 f47 w47 g47 = gsY_X11_token_1_L47 NF v1 n47 t64 (upd v47 7 t63) f47 w47 g47 := by
  subst h0 h3 h4 h5 h6 h7
  simp only [gsY_X11_token_1_L47, h1, if_neg h2, ite11, ite01, if_true, if_false]
theorem gsY_X11_token_1_q8 {NF : Nat} {v1 : Nat → Int32} {n47 : Nat} {l2_47 : Int32} {v47 : Nat → Int32} {f47 : Nat → Nat → Int32} {w47 : Int64} {g47 : Nat → Int64} {r48 : Int32} (h0 : r48 = gsY_X11_here_1 NF l2_47 v47 f47 w47 g47) (h1 : gsY_X11_isDigit_1 NF r48 v47 f47 w47 g47 = 0) (h2 : (4 < l2_47)) : gsY_X11_token_1_L47 NF v1 (n47 + 1) l2_47 v47 f47 w47 g47 = ((upd v47 5 3), f47, w47, g47) := by
  subst h0
  simp only [gsY_X11_token_1_L47, h1, if_pos h2, ite11, ite01, if_true, if_false]
theorem gsY_X11_token_1_q9 {NF : Nat} {v1 : Nat → Int32} {n47 : Nat} {l2_47 : Int32} {v47 : Nat → Int32} {f47 : Nat → Nat → Int32} {w47 : Int64} {g47 : Nat → Int64} {r48 : Int32} {r68 : Int32} (h0 : r48 = gsY_X11_here_1 NF l2_47 v47 f47 w47 g47) (h1 : gsY_X11_isDigit_1 NF r48 v47 f47 w47 g47 = 0) (h2 : ¬ (4 < l2_47)) (h3 : r68 = gsY_X11_here_1 NF l2_47 v47 f47 w47 g47) (h4 : gsY_X11_isLetter_1 NF r68 v47 f47 w47 g47 = 1) : gsY_X11_token_1_L47 NF v1 (n47 + 1) l2_47 v47 f47 w47 g47 = ((upd v47 5 3), f47, w47, g47) := by
  subst h0 h3
  simp only [gsY_X11_token_1_L47, h1, if_neg h2, h4, ite11, ite01, if_true, if_false]
theorem gsY_X11_token_1_q10 {NF : Nat} {v1 : Nat → Int32} {n47 : Nat} {l2_47 : Int32} {v47 : Nat → Int32} {f47 : Nat → Nat → Int32} {w47 : Int64} {g47 : Nat → Int64} {r48 : Int32} {r68 : Int32} {t74 : Int32} (h0 : r48 = gsY_X11_here_1 NF l2_47 v47 f47 w47 g47) (h1 : gsY_X11_isDigit_1 NF r48 v47 f47 w47 g47 = 0) (h2 : ¬ (4 < l2_47)) (h3 : r68 = gsY_X11_here_1 NF l2_47 v47 f47 w47 g47) (h4 : gsY_X11_isLetter_1 NF r68 v47 f47 w47 g47 = 0) (h5 : t74 = (v1 3) + l2_47) : gsY_X11_token_1_L47 NF v1 (n47 + 1) l2_47 v47 f47 w47 g47 = ((upd (upd v47 5 2) 3 t74), f47, w47, g47) := by
  subst h0 h3 h5
  simp only [gsY_X11_token_1_L47, h1, if_neg h2, h4, ite11, ite01, if_true, if_false]
def gsY_X11_wrong_1 (NF : Nat) (p1 : Int32) (v : Nat → Int32) (f : Nat → Nat → Int32) (w : Int64) (g : Nat → Int64) : (Nat → Int32) × (Nat → Nat → Int32) × (Int64) × (Nat → Int64) :=
  if (v 1) ≤ 0 then
    if (v 5) = 3 then
      ((upd (upd v 1 1) 2 (v 6)), f, w, g)
    else
      ((upd (upd v 1 p1) 2 (v 6)), f, w, g)
  else
    (v, f, w, g)
theorem gsY_X11_wrong_1_q0 {NF : Nat} {p1 : Int32} {v : Nat → Int32} {f : Nat → Nat → Int32} {w : Int64} {g : Nat → Int64} (h0 : ((v 1) ≤ 0)) (h1 : ¬ ((v 5) = 3)) : gsY_X11_wrong_1 NF p1 v f w g = ((upd (upd v 1 p1) 2 (v 6)), f, w, g) := by
  simp only [gsY_X11_wrong_1, if_pos h0, if_neg h1]
theorem gsY_X11_wrong_1_q1 {NF : Nat} {p1 : Int32} {v : Nat → Int32} {f : Nat → Nat → Int32} {w : Int64} {g : Nat → Int64} (h0 : ((v 1) ≤ 0)) (h1 : ((v 5) = 3)) : gsY_X11_wrong_1 NF p1 v f w g = ((upd (upd v 1 1) 2 (v 6)), f, w, g) := by
  simp only [gsY_X11_wrong_1, if_pos h0, if_pos h1]
theorem gsY_X11_wrong_1_q2 {NF : Nat} {p1 : Int32} {v : Nat → Int32} {f : Nat → Nat → Int32} {w : Int64} {g : Nat → Int64} (h0 : ¬ ((v 1) ≤ 0)) : gsY_X11_wrong_1 NF p1 v f w g = (v, f, w, g) := by
  simp only [gsY_X11_wrong_1, if_neg h0]
def gsY_X11_isWord_1 (NF : Nat) (j1 : Int64) (v : Nat → Int32) (f : Nat → Nat → Int32) (w : Int64) (g : Nat → Int64) : Int32 :=
  if (v 5) = 1 then
    let t2 : Int32 := lg_cmp w j1
    if t2 = 0 then
      1
    else
      0
  else
    0
theorem gsY_X11_isWord_1_q0 {NF : Nat} {j1 : Int64} {v : Nat → Int32} {f : Nat → Nat → Int32} {w : Int64} {g : Nat → Int64} (h0 : ¬ ((v 5) = 1)) : gsY_X11_isWord_1 NF j1 v f w g = 0 := by
  simp only [gsY_X11_isWord_1, if_neg h0]
theorem gsY_X11_isWord_1_q1 {NF : Nat} {j1 : Int64} {v : Nat → Int32} {f : Nat → Nat → Int32} {w : Int64} {g : Nat → Int64} {t2 : Int32} (h0 : ((v 5) = 1)) (h1 : t2 = lg_cmp w j1) (h2 : ¬ (t2 = 0)) : gsY_X11_isWord_1 NF j1 v f w g = 0 := by
  subst h1
  simp only [gsY_X11_isWord_1, if_pos h0, if_neg h2]
theorem gsY_X11_isWord_1_q2 {NF : Nat} {j1 : Int64} {v : Nat → Int32} {f : Nat → Nat → Int32} {w : Int64} {g : Nat → Int64} {t2 : Int32} (h0 : ((v 5) = 1)) (h1 : t2 = lg_cmp w j1) (h2 : (t2 = 0)) : gsY_X11_isWord_1 NF j1 v f w g = 1 := by
  subst h1
  simp only [gsY_X11_isWord_1, if_pos h0, if_pos h2]
def gsY_X11_want_1 (NF : Nat) (j1 : Int64) (v : Nat → Int32) (f : Nat → Nat → Int32) (w : Int64) (g : Nat → Int64) : (Nat → Int32) × (Nat → Nat → Int32) × (Int64) × (Nat → Int64) :=
  if (v 1) ≤ 0 then
    if gsY_X11_isWord_1 NF j1 v f w g = 1 then
      match gsY_X11_token_1 NF v f w g with
      | (v6, f7, w8, g9) =>
        (v6, f7, w8, g9)
    else
      match gsY_X11_wrong_1 NF 2 v f w g with
      | (v16, f17, w18, g19) =>
        (v16, f17, w18, g19)
  else
    (v, f, w, g)
theorem gsY_X11_want_1_q0 {NF : Nat} {j1 : Int64} {v : Nat → Int32} {f : Nat → Nat → Int32} {w : Int64} {g : Nat → Int64} {v6 : Nat → Int32} {f7 : Nat → Nat → Int32} {w8 : Int64} {g9 : Nat → Int64} (h0 : ((v 1) ≤ 0)) (h1 : gsY_X11_isWord_1 NF j1 v f w g = 1) (h2 : gsY_X11_token_1 NF v f w g = (v6, f7, w8, g9)) : gsY_X11_want_1 NF j1 v f w g = (v6, f7, w8, g9) := by
  simp only [gsY_X11_want_1, if_pos h0, h1, h2, ite11, ite01, if_true, if_false]
theorem gsY_X11_want_1_q1 {NF : Nat} {j1 : Int64} {v : Nat → Int32} {f : Nat → Nat → Int32} {w : Int64} {g : Nat → Int64} {v16 : Nat → Int32} {f17 : Nat → Nat → Int32} {w18 : Int64} {g19 : Nat → Int64} (h0 : ((v 1) ≤ 0)) (h1 : gsY_X11_isWord_1 NF j1 v f w g = 0) (h2 : gsY_X11_wrong_1 NF 2 v f w g = (v16, f17, w18, g19)) : gsY_X11_want_1 NF j1 v f w g = (v16, f17, w18, g19) := by
  simp only [gsY_X11_want_1, if_pos h0, h1, h2, ite11, ite01, if_true, if_false]
theorem gsY_X11_want_1_q2 {NF : Nat} {j1 : Int64} {v : Nat → Int32} {f : Nat → Nat → Int32} {w : Int64} {g : Nat → Int64} (h0 : ¬ ((v 1) ≤ 0)) : gsY_X11_want_1 NF j1 v f w g = (v, f, w, g) := by
  simp only [gsY_X11_want_1, if_neg h0]
def gsY_X11_toldNumber_1 (NF : Nat) (p1 : Int32) (p2 : Int32) (v : Nat → Int32) (f : Nat → Nat → Int32) (w : Int64) (g : Nat → Int64) : Int32 × (Nat → Int32) × (Nat → Nat → Int32) × (Int64) × (Nat → Int64) :=
  if (v 1) ≤ 0 then
    if (v 5) = 2 then
      if (v 7) < p1 then
        match gsY_X11_wrong_1 NF 4 v f w g with
        | (v7, f8, w9, g10) =>
          if (v7 1) = 0 then
            match gsY_X11_token_1 NF v7 f8 w9 g10 with
            | (v19, f20, w21, g22) =>
              ((v7 7), v19, f20, w21, g22)
          else
            ((v7 7), v7, f8, w9, g10)
      else
        if (v 7) ≤ p2 then
          if (v 1) = 0 then
            match gsY_X11_token_1 NF v f w g with
            | (v34, f35, w36, g37) =>
              ((v 7), v34, f35, w36, g37)
          else
            ((v 7), v, f, w, g)
        else
          match gsY_X11_wrong_1 NF 4 v f w g with
          | (v45, f46, w47, g48) =>
            if (v45 1) = 0 then
              match gsY_X11_token_1 NF v45 f46 w47 g48 with
              | (v57, f58, w59, g60) =>
                ((v45 7), v57, f58, w59, g60)
            else
              ((v45 7), v45, f46, w47, g48)
    else
      match gsY_X11_wrong_1 NF 2 v f w g with
      | (v67, f68, w69, g70) =>
        if (v67 1) = 0 then
          match gsY_X11_token_1 NF v67 f68 w69 g70 with
          | (v79, f80, w81, g82) =>
            ((v67 7), v79, f80, w81, g82)
        else
          ((v67 7), v67, f68, w69, g70)
  else
    (0, v, f, w, g)
theorem gsY_X11_toldNumber_1_q0 {NF : Nat} {p1 : Int32} {p2 : Int32} {v : Nat → Int32} {f : Nat → Nat → Int32} {w : Int64} {g : Nat → Int64} {v7 : Nat → Int32} {f8 : Nat → Nat → Int32} {w9 : Int64} {g10 : Nat → Int64} (h0 : ((v 1) ≤ 0)) (h1 : ((v 5) = 2)) (h2 : ((v 7) < p1)) (h3 : gsY_X11_wrong_1 NF 4 v f w g = (v7, f8, w9, g10)) (h4 : ¬ ((v7 1) = 0)) : gsY_X11_toldNumber_1 NF p1 p2 v f w g = ((v7 7), v7, f8, w9, g10) := by
  simp only [gsY_X11_toldNumber_1, if_pos h0, if_pos h1, if_pos h2, h3, if_neg h4]
theorem gsY_X11_toldNumber_1_q1 {NF : Nat} {p1 : Int32} {p2 : Int32} {v : Nat → Int32} {f : Nat → Nat → Int32} {w : Int64} {g : Nat → Int64} {v7 : Nat → Int32} {f8 : Nat → Nat → Int32} {w9 : Int64} {g10 : Nat → Int64} {v19 : Nat → Int32} {f20 : Nat → Nat → Int32} {w21 : Int64} {g22 : Nat → Int64} (h0 : ((v 1) ≤ 0)) (h1 : ((v 5) = 2)) (h2 : ((v 7) < p1)) (h3 : gsY_X11_wrong_1 NF 4 v f w g = (v7, f8, w9, g10)) (h4 : ((v7 1) = 0)) (h5 : gsY_X11_token_1 NF v7 f8 w9 g10 = (v19, f20, w21, g22)) : gsY_X11_toldNumber_1 NF p1 p2 v f w g = ((v7 7), v19, f20, w21, g22) := by
  simp only [gsY_X11_toldNumber_1, if_pos h0, if_pos h1, if_pos h2, h3, if_pos h4, h5]
theorem gsY_X11_toldNumber_1_q2 {NF : Nat} {p1 : Int32} {p2 : Int32} {v : Nat → Int32} {f : Nat → Nat → Int32} {w : Int64} {g : Nat → Int64} (h0 : ((v 1) ≤ 0)) (h1 : ((v 5) = 2)) (h2 : ¬ ((v 7) < p1)) (h3 : ((v 7) ≤ p2)) (h4 : ¬ ((v 1) = 0)) : gsY_X11_toldNumber_1 NF p1 p2 v f w g = ((v 7), v, f, w, g) := by
  simp only [gsY_X11_toldNumber_1, if_pos h0, if_pos h1, if_neg h2, if_pos h3, if_neg h4]
theorem gsY_X11_toldNumber_1_q3 {NF : Nat} {p1 : Int32} {p2 : Int32} {v : Nat → Int32} {f : Nat → Nat → Int32} {w : Int64} {g : Nat → Int64} {v34 : Nat → Int32} {f35 : Nat → Nat → Int32} {w36 : Int64} {g37 : Nat → Int64} (h0 : ((v 1) ≤ 0)) (h1 : ((v 5) = 2)) (h2 : ¬ ((v 7) < p1)) (h3 : ((v 7) ≤ p2)) (h4 : ((v 1) = 0)) (h5 : gsY_X11_token_1 NF v f w g = (v34, f35, w36, g37)) : gsY_X11_toldNumber_1 NF p1 p2 v f w g = ((v 7), v34, f35, w36, g37) := by
  simp only [gsY_X11_toldNumber_1, if_pos h0, if_pos h1, if_neg h2, if_pos h3, if_pos h4, h5]
theorem gsY_X11_toldNumber_1_q4 {NF : Nat} {p1 : Int32} {p2 : Int32} {v : Nat → Int32} {f : Nat → Nat → Int32} {w : Int64} {g : Nat → Int64} {v45 : Nat → Int32} {f46 : Nat → Nat → Int32} {w47 : Int64} {g48 : Nat → Int64} (h0 : ((v 1) ≤ 0)) (h1 : ((v 5) = 2)) (h2 : ¬ ((v 7) < p1)) (h3 : ¬ ((v 7) ≤ p2)) (h4 : gsY_X11_wrong_1 NF 4 v f w g = (v45, f46, w47, g48)) (h5 : ¬ ((v45 1) = 0)) : gsY_X11_toldNumber_1 NF p1 p2 v f w g = ((v45 7), v45, f46, w47, g48) := by
  simp only [gsY_X11_toldNumber_1, if_pos h0, if_pos h1, if_neg h2, if_neg h3, h4, if_neg h5]
theorem gsY_X11_toldNumber_1_q5 {NF : Nat} {p1 : Int32} {p2 : Int32} {v : Nat → Int32} {f : Nat → Nat → Int32} {w : Int64} {g : Nat → Int64} {v45 : Nat → Int32} {f46 : Nat → Nat → Int32} {w47 : Int64} {g48 : Nat → Int64} {v57 : Nat → Int32} {f58 : Nat → Nat → Int32} {w59 : Int64} {g60 : Nat → Int64} (h0 : ((v 1) ≤ 0)) (h1 : ((v 5) = 2)) (h2 : ¬ ((v 7) < p1)) (h3 : ¬ ((v 7) ≤ p2)) (h4 : gsY_X11_wrong_1 NF 4 v f w g = (v45, f46, w47, g48)) (h5 : ((v45 1) = 0)) (h6 : gsY_X11_token_1 NF v45 f46 w47 g48 = (v57, f58, w59, g60)) : gsY_X11_toldNumber_1 NF p1 p2 v f w g = ((v45 7), v57, f58, w59, g60) := by
  simp only [gsY_X11_toldNumber_1, if_pos h0, if_pos h1, if_neg h2, if_neg h3, h4, if_pos h5, h6]
theorem gsY_X11_toldNumber_1_q6 {NF : Nat} {p1 : Int32} {p2 : Int32} {v : Nat → Int32} {f : Nat → Nat → Int32} {w : Int64} {g : Nat → Int64} {v67 : Nat → Int32} {f68 : Nat → Nat → Int32} {w69 : Int64} {g70 : Nat → Int64} (h0 : ((v 1) ≤ 0)) (h1 : ¬ ((v 5) = 2)) (h2 : gsY_X11_wrong_1 NF 2 v f w g = (v67, f68, w69, g70)) (h3 : ¬ ((v67 1) = 0)) : gsY_X11_toldNumber_1 NF p1 p2 v f w g = ((v67 7), v67, f68, w69, g70) := by
  simp only [gsY_X11_toldNumber_1, if_pos h0, if_neg h1, h2, if_neg h3]
theorem gsY_X11_toldNumber_1_q7 {NF : Nat} {p1 : Int32} {p2 : Int32} {v : Nat → Int32} {f : Nat → Nat → Int32} {w : Int64} {g : Nat → Int64} {v67 : Nat → Int32} {f68 : Nat → Nat → Int32} {w69 : Int64} {g70 : Nat → Int64} {v79 : Nat → Int32} {f80 : Nat → Nat → Int32} {w81 : Int64} {g82 : Nat → Int64} (h0 : ((v 1) ≤ 0)) (h1 : ¬ ((v 5) = 2)) (h2 : gsY_X11_wrong_1 NF 2 v f w g = (v67, f68, w69, g70)) (h3 : ((v67 1) = 0)) (h4 : gsY_X11_token_1 NF v67 f68 w69 g70 = (v79, f80, w81, g82)) : gsY_X11_toldNumber_1 NF p1 p2 v f w g = ((v67 7), v79, f80, w81, g82) := by
  simp only [gsY_X11_toldNumber_1, if_pos h0, if_neg h1, h2, if_pos h3, h4]
theorem gsY_X11_toldNumber_1_q8 {NF : Nat} {p1 : Int32} {p2 : Int32} {v : Nat → Int32} {f : Nat → Nat → Int32} {w : Int64} {g : Nat → Int64} (h0 : ¬ ((v 1) ≤ 0)) : gsY_X11_toldNumber_1 NF p1 p2 v f w g = (0, v, f, w, g) := by
  simp only [gsY_X11_toldNumber_1, if_neg h0]
def gsY_X11_told_1 (NF : Nat) (j1 : Int64) (p2 : Int32) (v : Nat → Int32) (f : Nat → Nat → Int32) (w : Int64) (g : Nat → Int64) : Int32 × (Nat → Int32) × (Nat → Nat → Int32) × (Int64) × (Nat → Int64) :=
  match gsY_X11_want_1 NF j1 v f w g with
  | (v2, f3, w4, g5) =>
    match gsY_X11_toldNumber_1 NF 0 p2 v2 f3 w4 g5 with
    | (r11, v13, f14, w15, g16) =>
      (r11, v13, f14, w15, g16)
theorem gsY_X11_told_1_q0 {NF : Nat} {j1 : Int64} {p2 : Int32} {v : Nat → Int32} {f : Nat → Nat → Int32} {w : Int64} {g : Nat → Int64} {v2 : Nat → Int32} {f3 : Nat → Nat → Int32} {w4 : Int64} {g5 : Nat → Int64} {r11 : Int32} {v13 : Nat → Int32} {f14 : Nat → Nat → Int32} {w15 : Int64} {g16 : Nat → Int64} (h0 : gsY_X11_want_1 NF j1 v f w g = (v2, f3, w4, g5)) (h1 : gsY_X11_toldNumber_1 NF 0 p2 v2 f3 w4 g5 = (r11, v13, f14, w15, g16)) : gsY_X11_told_1 NF j1 p2 v f w g = (r11, v13, f14, w15, g16) := by
  simp only [gsY_X11_told_1, h0, h1]
def gsY_X11_asked_1 (NF : Nat) (v : Nat → Int32) (f : Nat → Nat → Int32) (w : Int64) (g : Nat → Int64) : Int32 :=
  if (v 5) = 1 then
    let t2 : Int32 := lg_cmp w (499984590964 : Int64)
    if t2 = 0 then
      0
    else
      let t4 : Int32 := lg_cmp w (465726042981 : Int64)
      if t4 = 0 then
        1
      else
        let t6 : Int32 := lg_cmp w (495673373300 : Int64)
        if t6 = 0 then
          2
        else
          let t8 : Int32 := lg_cmp w (1819242087 : Int64)
          if t8 = 0 then
            3
          else
            let t10 : Int32 := lg_cmp w (2003792494 : Int64)
            if t10 = 0 then
              4
            else
              let t12 : Int32 := lg_cmp w (6578553 : Int64)
              if t12 = 0 then
                5
              else
                (-1)
  else
    (-1)
theorem gsY_X11_asked_1_q0 {NF : Nat} {v : Nat → Int32} {f : Nat → Nat → Int32} {w : Int64} {g : Nat → Int64} {t2 : Int32} {t4 : Int32} {t6 : Int32} {t8 : Int32} {t10 : Int32} {t12 : Int32} (h0 : ((v 5) = 1)) (h1 : t2 = lg_cmp w (499984590964 : Int64)) (h2 : ¬ (t2 = 0)) (h3 : t4 = lg_cmp w (465726042981 : Int64)) (h4 : ¬ (t4 = 0)) (h5 : t6 = lg_cmp w (495673373300 : Int64)) (h6 : ¬ (t6 = 0)) (h7 : t8 = lg_cmp w (1819242087 : Int64)) (h8 : ¬ (t8 = 0)) (h9 : t10 = lg_cmp w (2003792494 : Int64)) (h10 : ¬ (t10 = 0)) (h11 : t12 = lg_cmp w (6578553 : Int64)) (h12 : ¬ (t12 = 0)) : gsY_X11_asked_1 NF v f w g = (-1) := by
  subst h1 h3 h5 h7 h9 h11
  simp only [gsY_X11_asked_1, if_pos h0, if_neg h2, if_neg h4, if_neg h6, if_neg h8, if_neg h10, if_neg h12]
theorem gsY_X11_asked_1_q1 {NF : Nat} {v : Nat → Int32} {f : Nat → Nat → Int32} {w : Int64} {g : Nat → Int64} {t2 : Int32} {t4 : Int32} {t6 : Int32} {t8 : Int32} {t10 : Int32} {t12 : Int32} (h0 : ((v 5) = 1)) (h1 : t2 = lg_cmp w (499984590964 : Int64)) (h2 : ¬ (t2 = 0)) (h3 : t4 = lg_cmp w (465726042981 : Int64)) (h4 : ¬ (t4 = 0)) (h5 : t6 = lg_cmp w (495673373300 : Int64)) (h6 : ¬ (t6 = 0)) (h7 : t8 = lg_cmp w (1819242087 : Int64)) (h8 : ¬ (t8 = 0)) (h9 : t10 = lg_cmp w (2003792494 : Int64)) (h10 : ¬ (t10 = 0)) (h11 : t12 = lg_cmp w (6578553 : Int64)) (h12 : (t12 = 0)) : gsY_X11_asked_1 NF v f w g = 5 := by
  subst h1 h3 h5 h7 h9 h11
  simp only [gsY_X11_asked_1, if_pos h0, if_neg h2, if_neg h4, if_neg h6, if_neg h8, if_neg h10, if_pos h12]
theorem gsY_X11_asked_1_q2 {NF : Nat} {v : Nat → Int32} {f : Nat → Nat → Int32} {w : Int64} {g : Nat → Int64} {t2 : Int32} {t4 : Int32} {t6 : Int32} {t8 : Int32} {t10 : Int32} (h0 : ((v 5) = 1)) (h1 : t2 = lg_cmp w (499984590964 : Int64)) (h2 : ¬ (t2 = 0)) (h3 : t4 = lg_cmp w (465726042981 : Int64)) (h4 : ¬ (t4 = 0)) (h5 : t6 = lg_cmp w (495673373300 : Int64)) (h6 : ¬ (t6 = 0)) (h7 : t8 = lg_cmp w (1819242087 : Int64)) (h8 : ¬ (t8 = 0)) (h9 : t10 = lg_cmp w (2003792494 : Int64)) (h10 : (t10 = 0)) : gsY_X11_asked_1 NF v f w g = 4 := by
  subst h1 h3 h5 h7 h9
  simp only [gsY_X11_asked_1, if_pos h0, if_neg h2, if_neg h4, if_neg h6, if_neg h8, if_pos h10]
theorem gsY_X11_asked_1_q3 {NF : Nat} {v : Nat → Int32} {f : Nat → Nat → Int32} {w : Int64} {g : Nat → Int64} {t2 : Int32} {t4 : Int32} {t6 : Int32} {t8 : Int32} (h0 : ((v 5) = 1)) (h1 : t2 = lg_cmp w (499984590964 : Int64)) (h2 : ¬ (t2 = 0)) (h3 : t4 = lg_cmp w (465726042981 : Int64)) (h4 : ¬ (t4 = 0)) (h5 : t6 = lg_cmp w (495673373300 : Int64)) (h6 : ¬ (t6 = 0)) (h7 : t8 = lg_cmp w (1819242087 : Int64)) (h8 : (t8 = 0)) : gsY_X11_asked_1 NF v f w g = 3 := by
  subst h1 h3 h5 h7
  simp only [gsY_X11_asked_1, if_pos h0, if_neg h2, if_neg h4, if_neg h6, if_pos h8]
theorem gsY_X11_asked_1_q4 {NF : Nat} {v : Nat → Int32} {f : Nat → Nat → Int32} {w : Int64} {g : Nat → Int64} {t2 : Int32} {t4 : Int32} {t6 : Int32} (h0 : ((v 5) = 1)) (h1 : t2 = lg_cmp w (499984590964 : Int64)) (h2 : ¬ (t2 = 0)) (h3 : t4 = lg_cmp w (465726042981 : Int64)) (h4 : ¬ (t4 = 0)) (h5 : t6 = lg_cmp w (495673373300 : Int64)) (h6 : (t6 = 0)) : gsY_X11_asked_1 NF v f w g = 2 := by
  subst h1 h3 h5
  simp only [gsY_X11_asked_1, if_pos h0, if_neg h2, if_neg h4, if_pos h6]
theorem gsY_X11_asked_1_q5 {NF : Nat} {v : Nat → Int32} {f : Nat → Nat → Int32} {w : Int64} {g : Nat → Int64} {t2 : Int32} {t4 : Int32} (h0 : ((v 5) = 1)) (h1 : t2 = lg_cmp w (499984590964 : Int64)) (h2 : ¬ (t2 = 0)) (h3 : t4 = lg_cmp w (465726042981 : Int64)) (h4 : (t4 = 0)) : gsY_X11_asked_1 NF v f w g = 1 := by
  subst h1 h3
  simp only [gsY_X11_asked_1, if_pos h0, if_neg h2, if_pos h4]
theorem gsY_X11_asked_1_q6 {NF : Nat} {v : Nat → Int32} {f : Nat → Nat → Int32} {w : Int64} {g : Nat → Int64} {t2 : Int32} (h0 : ((v 5) = 1)) (h1 : t2 = lg_cmp w (499984590964 : Int64)) (h2 : (t2 = 0)) : gsY_X11_asked_1 NF v f w g = 0 := by
  subst h1
  simp only [gsY_X11_asked_1, if_pos h0, if_pos h2]
theorem gsY_X11_asked_1_q7 {NF : Nat} {v : Nat → Int32} {f : Nat → Nat → Int32} {w : Int64} {g : Nat → Int64} (h0 : ¬ ((v 5) = 1)) : gsY_X11_asked_1 NF v f w g = (-1) := by
  simp only [gsY_X11_asked_1, if_neg h0]
def gsY_X11_countUnit_1 (NF : Nat) (v : Nat → Int32) (f : Nat → Nat → Int32) (w : Int64) (g : Nat → Int64) : (Nat → Int32) × (Nat → Nat → Int32) × (Int64) × (Nat → Int64) :=
  let t1 : Int32 := (v 11) + 1
  let t2 : Int32 := (v 13) + 1
  ((upd (upd v 11 t1) 13 t2), f, w, g)
theorem gsY_X11_countUnit_1_q0 {NF : Nat} {v : Nat → Int32} {f : Nat → Nat → Int32} {w : Int64} {g : Nat → Int64} {t1 : Int32} {t2 : Int32} (h0 : t1 = (v 11) + 1) (h1 : t2 = (v 13) + 1) : gsY_X11_countUnit_1 NF v f w g = ((upd (upd v 11 t1) 13 t2), f, w, g) := by
  subst h0 h1
  simp only [gsY_X11_countUnit_1]
def gsY_X11_add_1 (NF : Nat) (p1 : Int32) (p2 : Int32) (v : Nat → Int32) (f : Nat → Nat → Int32) (w : Int64) (g : Nat → Int64) : (Nat → Int32) × (Nat → Nat → Int32) × (Int64) × (Nat → Int64) :=
  let f1 : Nat → Nat → Int32 := upd2 f 2 (upd (f 2) (v 8).toNatClampNeg p1)
  let f2 : Nat → Nat → Int32 := upd2 f1 3 (upd (f1 3) (v 8).toNatClampNeg p2)
  let t3 : Int32 := (v 8) + 1
  ((upd v 8 t3), f2, w, g)
theorem gsY_X11_add_1_q0 {NF : Nat} {p1 : Int32} {p2 : Int32} {v : Nat → Int32} {f : Nat → Nat → Int32} {w : Int64} {g : Nat → Int64} {f1 : Nat → Nat → Int32} {f2 : Nat → Nat → Int32} {t3 : Int32} (h0 : f1 = upd2 f 2 (upd (f 2) (v 8).toNatClampNeg p1)) (h1 : f2 = upd2 f1 3 (upd (f1 3) (v 8).toNatClampNeg p2)) (h2 : t3 = (v 8) + 1) : gsY_X11_add_1 NF p1 p2 v f w g = ((upd v 8 t3), f2, w, g) := by
  subst h0 h1 h2
  simp only [gsY_X11_add_1]
def gsY_X11_isFull_1 (NF : Nat) (v : Nat → Int32) (f : Nat → Nat → Int32) (w : Int64) (g : Nat → Int64) : Int32 :=
  if (v 11) = 60 then
    1
  else
    if (v 13) = 30 then
      1
    else
      0
theorem gsY_X11_isFull_1_q0 {NF : Nat} {v : Nat → Int32} {f : Nat → Nat → Int32} {w : Int64} {g : Nat → Int64} (h0 : ((v 11) = 60)) : gsY_X11_isFull_1 NF v f w g = 1 := by
  simp only [gsY_X11_isFull_1, if_pos h0]
theorem gsY_X11_isFull_1_q1 {NF : Nat} {v : Nat → Int32} {f : Nat → Nat → Int32} {w : Int64} {g : Nat → Int64} (h0 : ¬ ((v 11) = 60)) (h1 : ¬ ((v 13) = 30)) : gsY_X11_isFull_1 NF v f w g = 0 := by
  simp only [gsY_X11_isFull_1, if_neg h0, if_neg h1]
theorem gsY_X11_isFull_1_q2 {NF : Nat} {v : Nat → Int32} {f : Nat → Nat → Int32} {w : Int64} {g : Nat → Int64} (h0 : ¬ ((v 11) = 60)) (h1 : ((v 13) = 30)) : gsY_X11_isFull_1 NF v f w g = 1 := by
  simp only [gsY_X11_isFull_1, if_neg h0, if_pos h1]
def gsY_X11_openUp_1 (NF : Nat) (p1 : Int32) (v : Nat → Int32) (f : Nat → Nat → Int32) (w : Int64) (g : Nat → Int64) : (Nat → Int32) × (Nat → Nat → Int32) × (Int64) × (Nat → Int64) :=
  let f1 : Nat → Nat → Int32 := upd2 f 6 (upd (f 6) (v 10).toNatClampNeg p1)
  let t2 : Int32 := (v 10) + 1
  let t4 : Int32 := (v 14) + 1
  if (v 1) = 0 then
    match gsY_X11_token_1 NF (upd (upd v 10 t2) 14 t4) f1 w g with
    | (v8, f9, w10, g11) =>
      (v8, f9, w10, g11)
  else
    ((upd (upd v 10 t2) 14 t4), f1, w, g)
theorem gsY_X11_openUp_1_q0 {NF : Nat} {p1 : Int32} {v : Nat → Int32} {f : Nat → Nat → Int32} {w : Int64} {g : Nat → Int64} {f1 : Nat → Nat → Int32} {t2 : Int32} {t4 : Int32} (h0 : f1 = upd2 f 6 (upd (f 6) (v 10).toNatClampNeg p1)) (h1 : t2 = (v 10) + 1) (h2 : t4 = (v 14) + 1) (h3 : ¬ ((v 1) = 0)) : gsY_X11_openUp_1 NF p1 v f w g = ((upd (upd v 10 t2) 14 t4), f1, w, g) := by
  subst h0 h1 h2
  simp only [gsY_X11_openUp_1, if_neg h3]
theorem gsY_X11_openUp_1_q1 {NF : Nat} {p1 : Int32} {v : Nat → Int32} {f : Nat → Nat → Int32} {w : Int64} {g : Nat → Int64} {f1 : Nat → Nat → Int32} {t2 : Int32} {t4 : Int32} {v8 : Nat → Int32} {f9 : Nat → Nat → Int32} {w10 : Int64} {g11 : Nat → Int64} (h0 : f1 = upd2 f 6 (upd (f 6) (v 10).toNatClampNeg p1)) (h1 : t2 = (v 10) + 1) (h2 : t4 = (v 14) + 1) (h3 : ((v 1) = 0)) (h4 : gsY_X11_token_1 NF (upd (upd v 10 t2) 14 t4) f1 w g = (v8, f9, w10, g11)) : gsY_X11_openUp_1 NF p1 v f w g = (v8, f9, w10, g11) := by
  subst h0 h1 h2
  simp only [gsY_X11_openUp_1, if_pos h3, h4]
def gsY_X11_tight_1 (NF : Nat) (p0 : Int32) (v : Nat → Int32) (f : Nat → Nat → Int32) (w : Int64) (g : Nat → Int64) : Int32 :=
  if p0 = 21 then
    3
  else
    if p0 = 38 then
      2
    else
      if p0 = 43 then
        5
      else
        if p0 = 45 then
          5
        else
          if p0 = 60 then
            4
          else
            if p0 = 61 then
              4
            else
              if p0 = 62 then
                4
              else
                if p0 = 124 then
                  1
                else
                  6
theorem gsY_X11_tight_1_q0 {NF : Nat} {p0 : Int32} {v : Nat → Int32} {f : Nat → Nat → Int32} {w : Int64} {g : Nat → Int64} (h0 : (p0 = 21)) : gsY_X11_tight_1 NF p0 v f w g = 3 := by
  simp only [gsY_X11_tight_1, if_pos h0]
theorem gsY_X11_tight_1_q1 {NF : Nat} {p0 : Int32} {v : Nat → Int32} {f : Nat → Nat → Int32} {w : Int64} {g : Nat → Int64} (h0 : ¬ (p0 = 21)) (h1 : (p0 = 38)) : gsY_X11_tight_1 NF p0 v f w g = 2 := by
  simp only [gsY_X11_tight_1, if_neg h0, if_pos h1]
theorem gsY_X11_tight_1_q2 {NF : Nat} {p0 : Int32} {v : Nat → Int32} {f : Nat → Nat → Int32} {w : Int64} {g : Nat → Int64} (h0 : ¬ (p0 = 21)) (h1 : ¬ (p0 = 38)) (h2 : (p0 = 43)) : gsY_X11_tight_1 NF p0 v f w g = 5 := by
  simp only [gsY_X11_tight_1, if_neg h0, if_neg h1, if_pos h2]
theorem gsY_X11_tight_1_q3 {NF : Nat} {p0 : Int32} {v : Nat → Int32} {f : Nat → Nat → Int32} {w : Int64} {g : Nat → Int64} (h0 : ¬ (p0 = 21)) (h1 : ¬ (p0 = 38)) (h2 : ¬ (p0 = 43)) (h3 : (p0 = 45)) : gsY_X11_tight_1 NF p0 v f w g = 5 := by
  simp only [gsY_X11_tight_1, if_neg h0, if_neg h1, if_neg h2, if_pos h3]
theorem gsY_X11_tight_1_q4 {NF : Nat} {p0 : Int32} {v : Nat → Int32} {f : Nat → Nat → Int32} {w : Int64} {g : Nat → Int64} (h0 : ¬ (p0 = 21)) (h1 : ¬ (p0 = 38)) (h2 : ¬ (p0 = 43)) (h3 : ¬ (p0 = 45)) (h4 : (p0 = 60)) : gsY_X11_tight_1 NF p0 v f w g = 4 := by
  simp only [gsY_X11_tight_1, if_neg h0, if_neg h1, if_neg h2, if_neg h3, if_pos h4]
theorem gsY_X11_tight_1_q5 {NF : Nat} {p0 : Int32} {v : Nat → Int32} {f : Nat → Nat → Int32} {w : Int64} {g : Nat → Int64} (h0 : ¬ (p0 = 21)) (h1 : ¬ (p0 = 38)) (h2 : ¬ (p0 = 43)) (h3 : ¬ (p0 = 45)) (h4 : ¬ (p0 = 60)) (h5 : (p0 = 61)) : gsY_X11_tight_1 NF p0 v f w g = 4 := by
  simp only [gsY_X11_tight_1, if_neg h0, if_neg h1, if_neg h2, if_neg h3, if_neg h4, if_pos h5]
theorem gsY_X11_tight_1_q6 {NF : Nat} {p0 : Int32} {v : Nat → Int32} {f : Nat → Nat → Int32} {w : Int64} {g : Nat → Int64} (h0 : ¬ (p0 = 21)) (h1 : ¬ (p0 = 38)) (h2 : ¬ (p0 = 43)) (h3 : ¬ (p0 = 45)) (h4 : ¬ (p0 = 60)) (h5 : ¬ (p0 = 61)) (h6 : (p0 = 62)) : gsY_X11_tight_1 NF p0 v f w g = 4 := by
  simp only [gsY_X11_tight_1, if_neg h0, if_neg h1, if_neg h2, if_neg h3, if_neg h4, if_neg h5, if_pos h6]
theorem gsY_X11_tight_1_q7 {NF : Nat} {p0 : Int32} {v : Nat → Int32} {f : Nat → Nat → Int32} {w : Int64} {g : Nat → Int64} (h0 : ¬ (p0 = 21)) (h1 : ¬ (p0 = 38)) (h2 : ¬ (p0 = 43)) (h3 : ¬ (p0 = 45)) (h4 : ¬ (p0 = 60)) (h5 : ¬ (p0 = 61)) (h6 : ¬ (p0 = 62)) (h7 : (p0 = 124)) : gsY_X11_tight_1 NF p0 v f w g = 1 := by
  simp only [gsY_X11_tight_1, if_neg h0, if_neg h1, if_neg h2, if_neg h3, if_neg h4, if_neg h5, if_neg h6, if_pos h7]
theorem gsY_X11_tight_1_q8 {NF : Nat} {p0 : Int32} {v : Nat → Int32} {f : Nat → Nat → Int32} {w : Int64} {g : Nat → Int64} (h0 : ¬ (p0 = 21)) (h1 : ¬ (p0 = 38)) (h2 : ¬ (p0 = 43)) (h3 : ¬ (p0 = 45)) (h4 : ¬ (p0 = 60)) (h5 : ¬ (p0 = 61)) (h6 : ¬ (p0 = 62)) (h7 : ¬ (p0 = 124)) : gsY_X11_tight_1 NF p0 v f w g = 6 := by
  simp only [gsY_X11_tight_1, if_neg h0, if_neg h1, if_neg h2, if_neg h3, if_neg h4, if_neg h5, if_neg h6, if_neg h7]
def gsY_X11_mayNot_1 (NF : Nat) (v : Nat → Int32) (f : Nat → Nat → Int32) (w : Int64) (g : Nat → Int64) : Int32 :=
  if (v 10) = 0 then
    1
  else
    let t2 : Int32 := (v 10) - 1
    let t4 : Int32 := f 6 (t2).toNatClampNeg
    if t4 = 20 then
      1
    else
      let r6 : Int32 := gsY_X11_tight_1 NF t4 v f w g
      if 4 ≤ r6 then
        0
      else
        1
theorem gsY_X11_mayNot_1_q0 {NF : Nat} {v : Nat → Int32} {f : Nat → Nat → Int32} {w : Int64} {g : Nat → Int64} (h0 : ((v 10) = 0)) : gsY_X11_mayNot_1 NF v f w g = 1 := by
  simp only [gsY_X11_mayNot_1, if_pos h0]
theorem gsY_X11_mayNot_1_q1 {NF : Nat} {v : Nat → Int32} {f : Nat → Nat → Int32} {w : Int64} {g : Nat → Int64} {t2 : Int32} {t4 : Int32} (h0 : ¬ ((v 10) = 0)) (h1 : t2 = (v 10) - 1) (h2 : t4 = f 6 (t2).toNatClampNeg) (h3 : (t4 = 20)) : gsY_X11_mayNot_1 NF v f w g = 1 := by
  subst h1 h2
  simp only [gsY_X11_mayNot_1, if_neg h0, if_pos h3]
theorem gsY_X11_mayNot_1_q2 {NF : Nat} {v : Nat → Int32} {f : Nat → Nat → Int32} {w : Int64} {g : Nat → Int64} {t2 : Int32} {t4 : Int32} {r6 : Int32} (h0 : ¬ ((v 10) = 0)) (h1 : t2 = (v 10) - 1) (h2 : t4 = f 6 (t2).toNatClampNeg) (h3 : ¬ (t4 = 20)) (h4 : r6 = gsY_X11_tight_1 NF t4 v f w g) (h5 : (4 ≤ r6)) : gsY_X11_mayNot_1 NF v f w g = 0 := by
  subst h1 h2 h4
  simp only [gsY_X11_mayNot_1, if_neg h0, if_neg h3, if_pos h5]
theorem gsY_X11_mayNot_1_q3 {NF : Nat} {v : Nat → Int32} {f : Nat → Nat → Int32} {w : Int64} {g : Nat → Int64} {t2 : Int32} {t4 : Int32} {r6 : Int32} (h0 : ¬ ((v 10) = 0)) (h1 : t2 = (v 10) - 1) (h2 : t4 = f 6 (t2).toNatClampNeg) (h3 : ¬ (t4 = 20)) (h4 : r6 = gsY_X11_tight_1 NF t4 v f w g) (h5 : ¬ (4 ≤ r6)) : gsY_X11_mayNot_1 NF v f w g = 1 := by
  subst h1 h2 h4
  simp only [gsY_X11_mayNot_1, if_neg h0, if_neg h3, if_neg h5]
def gsY_X11_unit_1_J6 (NF : Nat) (f1 : Nat → Nat → Int32) (g1 : Nat → Int64) (v1 : Nat → Int32) (w1 : Int64) (r4 : Int32) : (Nat → Int32) × (Nat → Nat → Int32) × (Int64) × (Nat → Int64) :=
  match gsY_X11_wrong_1 NF 2 v1 f1 w1 g1 with
  | (v8, f9, w10, g11) =>
    if (v8 1) ≤ 0 then
      match gsY_X11_countUnit_1 NF v8 f9 w10 g11 with
      | (v20, f21, w22, g23) =>
        if 0 ≤ r4 then
          if 0 ≤ r4 then
            match gsY_X11_add_1 NF 1 r4 v20 f21 w22 g23 with
            | (v31, f32, w33, g34) =>
              match gsY_X11_token_1 NF v31 f32 w33 g34 with
              | (v40, f41, w42, g43) =>
                (v40, f41, w42, g43)
          else
            match gsY_X11_add_1 NF 1 (v20 7) v20 f21 w22 g23 with
            | (v50, f51, w52, g53) =>
              match gsY_X11_token_1 NF v50 f51 w52 g53 with
              | (v59, f60, w61, g62) =>
                (v59, f60, w61, g62)
        else
          if 0 ≤ r4 then
            match gsY_X11_add_1 NF 0 r4 v20 f21 w22 g23 with
            | (v70, f71, w72, g73) =>
              match gsY_X11_token_1 NF v70 f71 w72 g73 with
              | (v79, f80, w81, g82) =>
                (v79, f80, w81, g82)
          else
            match gsY_X11_add_1 NF 0 (v20 7) v20 f21 w22 g23 with
            | (v89, f90, w91, g92) =>
              match gsY_X11_token_1 NF v89 f90 w91 g92 with
              | (v98, f99, w100, g101) =>
                (v98, f99, w100, g101)
    else
      (v8, f9, w10, g11)
def gsY_X11_unit_1_J107 (NF : Nat) (f1 : Nat → Nat → Int32) (g1 : Nat → Int64) (v1 : Nat → Int32) (w1 : Int64) (r4 : Int32) : (Nat → Int32) × (Nat → Nat → Int32) × (Int64) × (Nat → Int64) :=
  if gsY_X11_isFull_1 NF v1 f1 w1 g1 = 1 then
    gsY_X11_unit_1_J6 NF f1 g1 v1 w1 r4
  else
    if (v1 1) ≤ 0 then
      match gsY_X11_countUnit_1 NF v1 f1 w1 g1 with
      | (v113, f114, w115, g116) =>
        if 0 ≤ r4 then
          if 0 ≤ r4 then
            match gsY_X11_add_1 NF 1 r4 v113 f114 w115 g116 with
            | (v124, f125, w126, g127) =>
              match gsY_X11_token_1 NF v124 f125 w126 g127 with
              | (v133, f134, w135, g136) =>
                (v133, f134, w135, g136)
          else
            match gsY_X11_add_1 NF 1 (v113 7) v113 f114 w115 g116 with
            | (v143, f144, w145, g146) =>
              match gsY_X11_token_1 NF v143 f144 w145 g146 with
              | (v152, f153, w154, g155) =>
                (v152, f153, w154, g155)
        else
          if 0 ≤ r4 then
            match gsY_X11_add_1 NF 0 r4 v113 f114 w115 g116 with
            | (v163, f164, w165, g166) =>
              match gsY_X11_token_1 NF v163 f164 w165 g166 with
              | (v172, f173, w174, g175) =>
                (v172, f173, w174, g175)
          else
            match gsY_X11_add_1 NF 0 (v113 7) v113 f114 w115 g116 with
            | (v182, f183, w184, g185) =>
              match gsY_X11_token_1 NF v182 f183 w184 g185 with
              | (v191, f192, w193, g194) =>
                (v191, f192, w193, g194)
    else
      (v1, f1, w1, g1)
def gsY_X11_unit_1_J2 (NF : Nat) (f1 : Nat → Nat → Int32) (g1 : Nat → Int64) (v1 : Nat → Int32) (w1 : Int64) : (Nat → Int32) × (Nat → Nat → Int32) × (Int64) × (Nat → Int64) :=
  if (v1 1) ≤ 0 then
    let r4 : Int32 := gsY_X11_asked_1 NF v1 f1 w1 g1
    if (v1 5) = 2 then
      gsY_X11_unit_1_J107 NF f1 g1 v1 w1 r4
    else
      if r4 < 0 then
        gsY_X11_unit_1_J6 NF f1 g1 v1 w1 r4
      else
        gsY_X11_unit_1_J107 NF f1 g1 v1 w1 r4
  else
    (v1, f1, w1, g1)
def gsY_X11_unit_1_J204 (NF : Nat) (f1 : Nat → Nat → Int32) (g1 : Nat → Int64) (l1_1 : Int32) (v1 : Nat → Int32) (w1 : Int64) (k1 : Int32 → (Nat → Int32) → (Nat → Nat → Int32) → Int64 → (Nat → Int64) → ((Nat → Int32) × (Nat → Nat → Int32) × (Int64) × (Nat → Int64))) : (Nat → Int32) × (Nat → Nat → Int32) × (Int64) × (Nat → Int64) :=
  if (v1 5) = 40 then
    if gsY_X11_isFull_1 NF v1 f1 w1 g1 = 1 then
      match gsY_X11_wrong_1 NF 2 v1 f1 w1 g1 with
      | (v210, f211, w212, g213) =>
        match gsY_X11_countUnit_1 NF v210 f211 w212 g213 with
        | (v221, f222, w223, g224) =>
          match gsY_X11_openUp_1 NF 20 v221 f222 w223 g224 with
          | (v230, f231, w232, g233) =>
            k1 l1_1 v230 f231 w232 g233
    else
      if (v1 14) ≤ 6 then
        match gsY_X11_countUnit_1 NF v1 f1 w1 g1 with
        | (v243, f244, w245, g246) =>
          match gsY_X11_openUp_1 NF 20 v243 f244 w245 g246 with
          | (v252, f253, w254, g255) =>
            k1 l1_1 v252 f253 w254 g255
      else
        match gsY_X11_wrong_1 NF 2 v1 f1 w1 g1 with
        | (v264, f265, w266, g267) =>
          match gsY_X11_countUnit_1 NF v264 f265 w266 g267 with
          | (v275, f276, w277, g278) =>
            match gsY_X11_openUp_1 NF 20 v275 f276 w277 g278 with
            | (v284, f285, w286, g287) =>
              k1 l1_1 v284 f285 w286 g287
  else
    k1 0 v1 f1 w1 g1
def gsY_X11_unit_1_L1 (NF : Nat) : Nat → (Int32) → (Nat → Int32) → (Nat → Nat → Int32) → (Int64) → (Nat → Int64) → (Nat → Int32) × (Nat → Nat → Int32) × (Int64) × (Nat → Int64)
  | 0, _, _, _, _, _ => ((fun _ => 0), (fun _ _ => 0), 0, (fun _ => 0))
  | n1 + 1, l1_1, v1, f1, w1, g1 =>
    if l1_1 = 0 then
      gsY_X11_unit_1_J2 NF f1 g1 v1 w1
    else
      if (v1 1) = 0 then
        if gsY_X11_isWord_1 NF (7237492 : Int64) v1 f1 w1 g1 = 1 then
          if gsY_X11_mayNot_1 NF v1 f1 w1 g1 = 1 then
            if (v1 14) ≤ 6 then
              match gsY_X11_openUp_1 NF 21 v1 f1 w1 g1 with
              | (v303, f304, w305, g306) =>
                gsY_X11_unit_1_L1 NF n1 l1_1 v303 f304 w305 g306
            else
              match gsY_X11_wrong_1 NF 2 v1 f1 w1 g1 with
              | (v315, f316, w317, g318) =>
                match gsY_X11_openUp_1 NF 21 v315 f316 w317 g318 with
                | (v326, f327, w328, g329) =>
                  gsY_X11_unit_1_L1 NF n1 l1_1 v326 f327 w328 g329
          else
            gsY_X11_unit_1_J204 NF f1 g1 l1_1 v1 w1 (fun z0 z1 z2 z3 z4 => gsY_X11_unit_1_L1 NF n1 z0 z1 z2 z3 z4)
        else
          gsY_X11_unit_1_J204 NF f1 g1 l1_1 v1 w1 (fun z0 z1 z2 z3 z4 => gsY_X11_unit_1_L1 NF n1 z0 z1 z2 z3 z4)
      else
        gsY_X11_unit_1_J2 NF f1 g1 v1 w1
def gsY_X11_unit_1 (NF : Nat) (v : Nat → Int32) (f : Nat → Nat → Int32) (w : Int64) (g : Nat → Int64) : (Nat → Int32) × (Nat → Nat → Int32) × (Int64) × (Nat → Int64) :=
  gsY_X11_unit_1_L1 NF (4294967296 + NF) 1 v f w g
theorem gsY_X11_unit_1_q25 {NF : Nat} {v : Nat → Int32} {f : Nat → Nat → Int32} {w : Int64} {g : Nat → Int64}  : gsY_X11_unit_1 NF v f w g = gsY_X11_unit_1_L1 NF (4294967296 + NF) 1 v f w g := by
  simp only [gsY_X11_unit_1]
theorem gsY_X11_unit_1_q15 {NF : Nat} {n1 : Nat} {l1_1 : Int32} {v1 : Nat → Int32} {f1 : Nat → Nat → Int32} {w1 : Int64} {g1 : Nat → Int64} (h0 : (l1_1 = 0)) : gsY_X11_unit_1_L1 NF (n1 + 1) l1_1 v1 f1 w1 g1 = gsY_X11_unit_1_J2 NF f1 g1 v1 w1 := by
  simp only [gsY_X11_unit_1_L1, if_pos h0]
theorem gsY_X11_unit_1_q16 {NF : Nat} {n1 : Nat} {l1_1 : Int32} {v1 : Nat → Int32} {f1 : Nat → Nat → Int32} {w1 : Int64} {g1 : Nat → Int64} (h0 : ¬ (l1_1 = 0)) (h1 : ¬ ((v1 1) = 0)) : gsY_X11_unit_1_L1 NF (n1 + 1) l1_1 v1 f1 w1 g1 = gsY_X11_unit_1_J2 NF f1 g1 v1 w1 := by
  simp only [gsY_X11_unit_1_L1, if_neg h0, if_neg h1]
theorem gsY_X11_unit_1_q21 {NF : Nat} {n1 : Nat} {l1_1 : Int32} {v1 : Nat → Int32} {f1 : Nat → Nat → Int32} {w1 : Int64} {g1 : Nat → Int64} {v303 : Nat → Int32} {f304 : Nat → Nat → Int32} {w305 : Int64} {g306 : Nat → Int64} (h0 : ¬ (l1_1 = 0)) (h1 : ((v1 1) = 0)) (h2 : gsY_X11_isWord_1 NF (7237492 : Int64) v1 f1 w1 g1 = 1) (h3 : gsY_X11_mayNot_1 NF v1 f1 w1 g1 = 1) (h4 : ((v1 14) ≤ 6)) (h5 : gsY_X11_openUp_1 NF 21 v1 f1 w1 g1 = (v303, f304, w305, g306)) : gsY_X11_unit_1_L1 NF (n1 + 1) l1_1 v1 f1 w1 g1 = gsY_X11_unit_1_L1 NF n1 l1_1 v303 f304 w305 g306 := by
  simp only [gsY_X11_unit_1_L1, if_neg h0, if_pos h1, h2, h3, if_pos h4, h5, ite11, ite01, if_true, if_false]
theorem gsY_X11_unit_1_q22 {NF : Nat} {n1 : Nat} {l1_1 : Int32} {v1 : Nat → Int32} {f1 : Nat → Nat → Int32} {w1 : Int64} {g1 : Nat → Int64} {v315 : Nat → Int32} {f316 : Nat → Nat → Int32} {w317 : Int64} {g318 : Nat → Int64} {v326 : Nat → Int32} {f327 : Nat → Nat → Int32} {w328 : Int64} {g329 : Nat → Int64} (h0 : ¬ (l1_1 = 0)) (h1 : ((v1 1) = 0)) (h2 : gsY_X11_isWord_1 NF (7237492 : Int64) v1 f1 w1 g1 = 1) (h3 : gsY_X11_mayNot_1 NF v1 f1 w1 g1 = 1) (h4 : ¬ ((v1 14) ≤ 6)) (h5 : gsY_X11_wrong_1 NF 2 v1 f1 w1 g1 = (v315, f316, w317, g318)) (h6 : gsY_X11_openUp_1 NF 21 v315 f316 w317 g318 = (v326, f327, w328, g329)) : gsY_X11_unit_1_L1 NF (n1 + 1) l1_1 v1 f1 w1 g1 = gsY_X11_unit_1_L1 NF n1 l1_1 v326 f327 w328 g329 := by
  simp only [gsY_X11_unit_1_L1, if_neg h0, if_pos h1, h2, h3, if_neg h4, h5, h6, ite11, ite01, if_true, if_false]
theorem gsY_X11_unit_1_q23 {NF : Nat} {n1 : Nat} {l1_1 : Int32} {v1 : Nat → Int32} {f1 : Nat → Nat → Int32} {w1 : Int64} {g1 : Nat → Int64} (h0 : ¬ (l1_1 = 0)) (h1 : ((v1 1) = 0)) (h2 : gsY_X11_isWord_1 NF (7237492 : Int64) v1 f1 w1 g1 = 1) (h3 : gsY_X11_mayNot_1 NF v1 f1 w1 g1 = 0) : gsY_X11_unit_1_L1 NF (n1 + 1) l1_1 v1 f1 w1 g1 = gsY_X11_unit_1_J204 NF f1 g1 l1_1 v1 w1 (fun z0 z1 z2 z3 z4 => gsY_X11_unit_1_L1 NF n1 z0 z1 z2 z3 z4) := by
  simp only [gsY_X11_unit_1_L1, if_neg h0, if_pos h1, h2, h3, ite11, ite01, if_true, if_false]
theorem gsY_X11_unit_1_q24 {NF : Nat} {n1 : Nat} {l1_1 : Int32} {v1 : Nat → Int32} {f1 : Nat → Nat → Int32} {w1 : Int64} {g1 : Nat → Int64} (h0 : ¬ (l1_1 = 0)) (h1 : ((v1 1) = 0)) (h2 : gsY_X11_isWord_1 NF (7237492 : Int64) v1 f1 w1 g1 = 0) : gsY_X11_unit_1_L1 NF (n1 + 1) l1_1 v1 f1 w1 g1 = gsY_X11_unit_1_J204 NF f1 g1 l1_1 v1 w1 (fun z0 z1 z2 z3 z4 => gsY_X11_unit_1_L1 NF n1 z0 z1 z2 z3 z4) := by
  simp only [gsY_X11_unit_1_L1, if_neg h0, if_pos h1, h2, ite11, ite01, if_true, if_false]
theorem gsY_X11_unit_1_q11 {NF : Nat} {f1 : Nat → Nat → Int32} {g1 : Nat → Int64} {v1 : Nat → Int32} {w1 : Int64} {r4 : Int32} (h0 : ((v1 1) ≤ 0)) (h1 : r4 = gsY_X11_asked_1 NF v1 f1 w1 g1) (h2 : ((v1 5) = 2)) : gsY_X11_unit_1_J2 NF f1 g1 v1 w1 = gsY_X11_unit_1_J107 NF f1 g1 v1 w1 r4 := by
  subst h1
  simp only [gsY_X11_unit_1_J2, if_pos h0, if_pos h2]
theorem gsY_X11_unit_1_q12 {NF : Nat} {f1 : Nat → Nat → Int32} {g1 : Nat → Int64} {v1 : Nat → Int32} {w1 : Int64} {r4 : Int32} (h0 : ((v1 1) ≤ 0)) (h1 : r4 = gsY_X11_asked_1 NF v1 f1 w1 g1) (h2 : ¬ ((v1 5) = 2)) (h3 : (r4 < 0)) : gsY_X11_unit_1_J2 NF f1 g1 v1 w1 = gsY_X11_unit_1_J6 NF f1 g1 v1 w1 r4 := by
  subst h1
  simp only [gsY_X11_unit_1_J2, if_pos h0, if_neg h2, if_pos h3]
theorem gsY_X11_unit_1_q13 {NF : Nat} {f1 : Nat → Nat → Int32} {g1 : Nat → Int64} {v1 : Nat → Int32} {w1 : Int64} {r4 : Int32} (h0 : ((v1 1) ≤ 0)) (h1 : r4 = gsY_X11_asked_1 NF v1 f1 w1 g1) (h2 : ¬ ((v1 5) = 2)) (h3 : ¬ (r4 < 0)) : gsY_X11_unit_1_J2 NF f1 g1 v1 w1 = gsY_X11_unit_1_J107 NF f1 g1 v1 w1 r4 := by
  subst h1
  simp only [gsY_X11_unit_1_J2, if_pos h0, if_neg h2, if_neg h3]
theorem gsY_X11_unit_1_q14 {NF : Nat} {f1 : Nat → Nat → Int32} {g1 : Nat → Int64} {v1 : Nat → Int32} {w1 : Int64} (h0 : ¬ ((v1 1) ≤ 0)) : gsY_X11_unit_1_J2 NF f1 g1 v1 w1 = (v1, f1, w1, g1) := by
  simp only [gsY_X11_unit_1_J2, if_neg h0]
theorem gsY_X11_unit_1_q0 {NF : Nat} {f1 : Nat → Nat → Int32} {g1 : Nat → Int64} {v1 : Nat → Int32} {w1 : Int64} {r4 : Int32} {v8 : Nat → Int32} {f9 : Nat → Nat → Int32} {w10 : Int64} {g11 : Nat → Int64} {v20 : Nat → Int32} {f21 : Nat → Nat → Int32} {w22 : Int64} {g23 : Nat → Int64} {v31 : Nat → Int32} {f32 : Nat → Nat → Int32} {w33 : Int64} {g34 : Nat → Int64} {v40 : Nat → Int32} {f41 : Nat → Nat → Int32} {w42 : Int64} {g43 : Nat → Int64} (h0 : gsY_X11_wrong_1 NF 2 v1 f1 w1 g1 = (v8, f9, w10, g11)) (h1 : ((v8 1) ≤ 0)) (h2 : gsY_X11_countUnit_1 NF v8 f9 w10 g11 = (v20, f21, w22, g23)) (h3 : (0 ≤ r4)) (h4 : (0 ≤ r4)) (h5 : gsY_X11_add_1 NF 1 r4 v20 f21 w22 g23 = (v31, f32, w33, g34)) (h6 : gsY_X11_token_1 NF v31 f32 w33 g34 = (v40, f41, w42, g43)) : gsY_X11_unit_1_J6 NF f1 g1 v1 w1 r4 = (v40, f41, w42, g43) := by
  simp only [gsY_X11_unit_1_J6, h0, if_pos h1, h2, if_pos h3, if_pos h4, h5, h6]
theorem gsY_X11_unit_1_q1 {NF : Nat} {f1 : Nat → Nat → Int32} {g1 : Nat → Int64} {v1 : Nat → Int32} {w1 : Int64} {r4 : Int32} {v8 : Nat → Int32} {f9 : Nat → Nat → Int32} {w10 : Int64} {g11 : Nat → Int64} {v20 : Nat → Int32} {f21 : Nat → Nat → Int32} {w22 : Int64} {g23 : Nat → Int64} {v50 : Nat → Int32} {f51 : Nat → Nat → Int32} {w52 : Int64} {g53 : Nat → Int64} {v59 : Nat → Int32} {f60 : Nat → Nat → Int32} {w61 : Int64} {g62 : Nat → Int64} (h0 : gsY_X11_wrong_1 NF 2 v1 f1 w1 g1 = (v8, f9, w10, g11)) (h1 : ((v8 1) ≤ 0)) (h2 : gsY_X11_countUnit_1 NF v8 f9 w10 g11 = (v20, f21, w22, g23)) (h3 : (0 ≤ r4)) (h4 : ¬ (0 ≤ r4)) (h5 : gsY_X11_add_1 NF 1 (v20 7) v20 f21 w22 g23 = (v50, f51, w52, g53)) (h6 : gsY_X11_token_1 NF v50 f51 w52 g53 = (v59, f60, w61, g62)) : gsY_X11_unit_1_J6 NF f1 g1 v1 w1 r4 = (v59, f60, w61, g62) := by
  exact absurd h3 h4
theorem gsY_X11_unit_1_q2 {NF : Nat} {f1 : Nat → Nat → Int32} {g1 : Nat → Int64} {v1 : Nat → Int32} {w1 : Int64} {r4 : Int32} {v8 : Nat → Int32} {f9 : Nat → Nat → Int32} {w10 : Int64} {g11 : Nat → Int64} {v20 : Nat → Int32} {f21 : Nat → Nat → Int32} {w22 : Int64} {g23 : Nat → Int64} {v70 : Nat → Int32} {f71 : Nat → Nat → Int32} {w72 : Int64} {g73 : Nat → Int64} {v79 : Nat → Int32} {f80 : Nat → Nat → Int32} {w81 : Int64} {g82 : Nat → Int64} (h0 : gsY_X11_wrong_1 NF 2 v1 f1 w1 g1 = (v8, f9, w10, g11)) (h1 : ((v8 1) ≤ 0)) (h2 : gsY_X11_countUnit_1 NF v8 f9 w10 g11 = (v20, f21, w22, g23)) (h3 : ¬ (0 ≤ r4)) (h4 : (0 ≤ r4)) (h5 : gsY_X11_add_1 NF 0 r4 v20 f21 w22 g23 = (v70, f71, w72, g73)) (h6 : gsY_X11_token_1 NF v70 f71 w72 g73 = (v79, f80, w81, g82)) : gsY_X11_unit_1_J6 NF f1 g1 v1 w1 r4 = (v79, f80, w81, g82) := by
  exact absurd h4 h3
theorem gsY_X11_unit_1_q3 {NF : Nat} {f1 : Nat → Nat → Int32} {g1 : Nat → Int64} {v1 : Nat → Int32} {w1 : Int64} {r4 : Int32} {v8 : Nat → Int32} {f9 : Nat → Nat → Int32} {w10 : Int64} {g11 : Nat → Int64} {v20 : Nat → Int32} {f21 : Nat → Nat → Int32} {w22 : Int64} {g23 : Nat → Int64} {v89 : Nat → Int32} {f90 : Nat → Nat → Int32} {w91 : Int64} {g92 : Nat → Int64} {v98 : Nat → Int32} {f99 : Nat → Nat → Int32} {w100 : Int64} {g101 : Nat → Int64} (h0 : gsY_X11_wrong_1 NF 2 v1 f1 w1 g1 = (v8, f9, w10, g11)) (h1 : ((v8 1) ≤ 0)) (h2 : gsY_X11_countUnit_1 NF v8 f9 w10 g11 = (v20, f21, w22, g23)) (h3 : ¬ (0 ≤ r4)) (h4 : ¬ (0 ≤ r4)) (h5 : gsY_X11_add_1 NF 0 (v20 7) v20 f21 w22 g23 = (v89, f90, w91, g92)) (h6 : gsY_X11_token_1 NF v89 f90 w91 g92 = (v98, f99, w100, g101)) : gsY_X11_unit_1_J6 NF f1 g1 v1 w1 r4 = (v98, f99, w100, g101) := by
  simp only [gsY_X11_unit_1_J6, h0, if_pos h1, h2, if_neg h3, if_neg h4, h5, h6]
theorem gsY_X11_unit_1_q4 {NF : Nat} {f1 : Nat → Nat → Int32} {g1 : Nat → Int64} {v1 : Nat → Int32} {w1 : Int64} {r4 : Int32} {v8 : Nat → Int32} {f9 : Nat → Nat → Int32} {w10 : Int64} {g11 : Nat → Int64} (h0 : gsY_X11_wrong_1 NF 2 v1 f1 w1 g1 = (v8, f9, w10, g11)) (h1 : ¬ ((v8 1) ≤ 0)) : gsY_X11_unit_1_J6 NF f1 g1 v1 w1 r4 = (v8, f9, w10, g11) := by
  simp only [gsY_X11_unit_1_J6, h0, if_neg h1]
theorem gsY_X11_unit_1_q5 {NF : Nat} {f1 : Nat → Nat → Int32} {g1 : Nat → Int64} {v1 : Nat → Int32} {w1 : Int64} {r4 : Int32} (h0 : gsY_X11_isFull_1 NF v1 f1 w1 g1 = 1) : gsY_X11_unit_1_J107 NF f1 g1 v1 w1 r4 = gsY_X11_unit_1_J6 NF f1 g1 v1 w1 r4 := by
  simp only [gsY_X11_unit_1_J107, h0, ite11, ite01, if_true, if_false]
theorem gsY_X11_unit_1_q6 {NF : Nat} {f1 : Nat → Nat → Int32} {g1 : Nat → Int64} {v1 : Nat → Int32} {w1 : Int64} {r4 : Int32} {v113 : Nat → Int32} {f114 : Nat → Nat → Int32} {w115 : Int64} {g116 : Nat → Int64} {v124 : Nat → Int32} {f125 : Nat → Nat → Int32} {w126 : Int64} {g127 : Nat → Int64} {v133 : Nat → Int32} {f134 : Nat → Nat → Int32} {w135 : Int64} {g136 : Nat → Int64} (h0 : gsY_X11_isFull_1 NF v1 f1 w1 g1 = 0) (h1 : ((v1 1) ≤ 0)) (h2 : gsY_X11_countUnit_1 NF v1 f1 w1 g1 = (v113, f114, w115, g116)) (h3 : (0 ≤ r4)) (h4 : (0 ≤ r4)) (h5 : gsY_X11_add_1 NF 1 r4 v113 f114 w115 g116 = (v124, f125, w126, g127)) (h6 : gsY_X11_token_1 NF v124 f125 w126 g127 = (v133, f134, w135, g136)) : gsY_X11_unit_1_J107 NF f1 g1 v1 w1 r4 = (v133, f134, w135, g136) := by
  simp only [gsY_X11_unit_1_J107, h0, if_pos h1, h2, if_pos h3, if_pos h4, h5, h6, ite11, ite01, if_true, if_false]
theorem gsY_X11_unit_1_q7 {NF : Nat} {f1 : Nat → Nat → Int32} {g1 : Nat → Int64} {v1 : Nat → Int32} {w1 : Int64} {r4 : Int32} {v113 : Nat → Int32} {f114 : Nat → Nat → Int32} {w115 : Int64} {g116 : Nat → Int64} {v143 : Nat → Int32} {f144 : Nat → Nat → Int32} {w145 : Int64} {g146 : Nat → Int64} {v152 : Nat → Int32} {f153 : Nat → Nat → Int32} {w154 : Int64} {g155 : Nat → Int64} (h0 : gsY_X11_isFull_1 NF v1 f1 w1 g1 = 0) (h1 : ((v1 1) ≤ 0)) (h2 : gsY_X11_countUnit_1 NF v1 f1 w1 g1 = (v113, f114, w115, g116)) (h3 : (0 ≤ r4)) (h4 : ¬ (0 ≤ r4)) (h5 : gsY_X11_add_1 NF 1 (v113 7) v113 f114 w115 g116 = (v143, f144, w145, g146)) (h6 : gsY_X11_token_1 NF v143 f144 w145 g146 = (v152, f153, w154, g155)) : gsY_X11_unit_1_J107 NF f1 g1 v1 w1 r4 = (v152, f153, w154, g155) := by
  exact absurd h3 h4
theorem gsY_X11_unit_1_q8 {NF : Nat} {f1 : Nat → Nat → Int32} {g1 : Nat → Int64} {v1 : Nat → Int32} {w1 : Int64} {r4 : Int32} {v113 : Nat → Int32} {f114 : Nat → Nat → Int32} {w115 : Int64} {g116 : Nat → Int64} {v163 : Nat → Int32} {f164 : Nat → Nat → Int32} {w165 : Int64} {g166 : Nat → Int64} {v172 : Nat → Int32} {f173 : Nat → Nat → Int32} {w174 : Int64} {g175 : Nat → Int64} (h0 : gsY_X11_isFull_1 NF v1 f1 w1 g1 = 0) (h1 : ((v1 1) ≤ 0)) (h2 : gsY_X11_countUnit_1 NF v1 f1 w1 g1 = (v113, f114, w115, g116)) (h3 : ¬ (0 ≤ r4)) (h4 : (0 ≤ r4)) (h5 : gsY_X11_add_1 NF 0 r4 v113 f114 w115 g116 = (v163, f164, w165, g166)) (h6 : gsY_X11_token_1 NF v163 f164 w165 g166 = (v172, f173, w174, g175)) : gsY_X11_unit_1_J107 NF f1 g1 v1 w1 r4 = (v172, f173, w174, g175) := by
  exact absurd h4 h3
theorem gsY_X11_unit_1_q9 {NF : Nat} {f1 : Nat → Nat → Int32} {g1 : Nat → Int64} {v1 : Nat → Int32} {w1 : Int64} {r4 : Int32} {v113 : Nat → Int32} {f114 : Nat → Nat → Int32} {w115 : Int64} {g116 : Nat → Int64} {v182 : Nat → Int32} {f183 : Nat → Nat → Int32} {w184 : Int64} {g185 : Nat → Int64} {v191 : Nat → Int32} {f192 : Nat → Nat → Int32} {w193 : Int64} {g194 : Nat → Int64} (h0 : gsY_X11_isFull_1 NF v1 f1 w1 g1 = 0) (h1 : ((v1 1) ≤ 0)) (h2 : gsY_X11_countUnit_1 NF v1 f1 w1 g1 = (v113, f114, w115, g116)) (h3 : ¬ (0 ≤ r4)) (h4 : ¬ (0 ≤ r4)) (h5 : gsY_X11_add_1 NF 0 (v113 7) v113 f114 w115 g116 = (v182, f183, w184, g185)) (h6 : gsY_X11_token_1 NF v182 f183 w184 g185 = (v191, f192, w193, g194)) : gsY_X11_unit_1_J107 NF f1 g1 v1 w1 r4 = (v191, f192, w193, g194) := by
  simp only [gsY_X11_unit_1_J107, h0, if_pos h1, h2, if_neg h3, if_neg h4, h5, h6, ite11, ite01, if_true, if_false]
theorem gsY_X11_unit_1_q10 {NF : Nat} {f1 : Nat → Nat → Int32} {g1 : Nat → Int64} {v1 : Nat → Int32} {w1 : Int64} {r4 : Int32} (h0 : gsY_X11_isFull_1 NF v1 f1 w1 g1 = 0) (h1 : ¬ ((v1 1) ≤ 0)) : gsY_X11_unit_1_J107 NF f1 g1 v1 w1 r4 = (v1, f1, w1, g1) := by
  simp only [gsY_X11_unit_1_J107, h0, if_neg h1, ite11, ite01, if_true, if_false]
theorem gsY_X11_unit_1_q17 {NF : Nat} {f1 : Nat → Nat → Int32} {g1 : Nat → Int64} {l1_1 : Int32} {v1 : Nat → Int32} {w1 : Int64} {k1 : Int32 → (Nat → Int32) → (Nat → Nat → Int32) → Int64 → (Nat → Int64) → ((Nat → Int32) × (Nat → Nat → Int32) × (Int64) × (Nat → Int64))} (h0 : ¬ ((v1 5) = 40)) : gsY_X11_unit_1_J204 NF f1 g1 l1_1 v1 w1 k1 = k1 0 v1 f1 w1 g1 := by
  simp only [gsY_X11_unit_1_J204, if_neg h0]
theorem gsY_X11_unit_1_q18 {NF : Nat} {f1 : Nat → Nat → Int32} {g1 : Nat → Int64} {l1_1 : Int32} {v1 : Nat → Int32} {w1 : Int64} {v210 : Nat → Int32} {f211 : Nat → Nat → Int32} {w212 : Int64} {g213 : Nat → Int64} {v221 : Nat → Int32} {f222 : Nat → Nat → Int32} {w223 : Int64} {g224 : Nat → Int64} {v230 : Nat → Int32} {f231 : Nat → Nat → Int32} {w232 : Int64} {g233 : Nat → Int64} {k1 : Int32 → (Nat → Int32) → (Nat → Nat → Int32) → Int64 → (Nat → Int64) → ((Nat → Int32) × (Nat → Nat → Int32) × (Int64) × (Nat → Int64))} (h0 : ((v1 5) = 40)) (h1 : gsY_X11_isFull_1 NF v1 f1 w1 g1 = 1) (h2 : gsY_X11_wrong_1 NF 2 v1 f1 w1 g1 = (v210, f211, w212, g213)) (h3 : gsY_X11_countUnit_1 NF v210 f211 w212 g213 = (v221, f222, w223, g224)) (h4 : gsY_X11_openUp_1 NF 20 v221 f222 w223 g224 = (v230, f231, w232, g233)) : gsY_X11_unit_1_J204 NF f1 g1 l1_1 v1 w1 k1 = k1 l1_1 v230 f231 w232 g233 := by
  simp only [gsY_X11_unit_1_J204, if_pos h0, h1, h2, h3, h4, ite11, ite01, if_true, if_false]
theorem gsY_X11_unit_1_q19 {NF : Nat} {f1 : Nat → Nat → Int32} {g1 : Nat → Int64} {l1_1 : Int32} {v1 : Nat → Int32} {w1 : Int64} {v243 : Nat → Int32} {f244 : Nat → Nat → Int32} {w245 : Int64} {g246 : Nat → Int64} {v252 : Nat → Int32} {f253 : Nat → Nat → Int32} {w254 : Int64} {g255 : Nat → Int64} {k1 : Int32 → (Nat → Int32) → (Nat → Nat → Int32) → Int64 → (Nat → Int64) → ((Nat → Int32) × (Nat → Nat → Int32) × (Int64) × (Nat → Int64))} (h0 : ((v1 5) = 40)) (h1 : gsY_X11_isFull_1 NF v1 f1 w1 g1 = 0) (h2 : ((v1 14) ≤ 6)) (h3 : gsY_X11_countUnit_1 NF v1 f1 w1 g1 = (v243, f244, w245, g246)) (h4 : gsY_X11_openUp_1 NF 20 v243 f244 w245 g246 = (v252, f253, w254, g255)) : gsY_X11_unit_1_J204 NF f1 g1 l1_1 v1 w1 k1 = k1 l1_1 v252 f253 w254 g255 := by
  simp only [gsY_X11_unit_1_J204, if_pos h0, h1, if_pos h2, h3, h4, ite11, ite01, if_true, if_false]
theorem gsY_X11_unit_1_q20 {NF : Nat} {f1 : Nat → Nat → Int32} {g1 : Nat → Int64} {l1_1 : Int32} {v1 : Nat → Int32} {w1 : Int64} {v264 : Nat → Int32} {f265 : Nat → Nat → Int32} {w266 : Int64} {g267 : Nat → Int64} {v275 : Nat → Int32} {f276 : Nat → Nat → Int32} {w277 : Int64} {g278 : Nat → Int64} {v284 : Nat → Int32} {f285 : Nat → Nat → Int32} {w286 : Int64} {g287 : Nat → Int64} {k1 : Int32 → (Nat → Int32) → (Nat → Nat → Int32) → Int64 → (Nat → Int64) → ((Nat → Int32) × (Nat → Nat → Int32) × (Int64) × (Nat → Int64))} (h0 : ((v1 5) = 40)) (h1 : gsY_X11_isFull_1 NF v1 f1 w1 g1 = 0) (h2 : ¬ ((v1 14) ≤ 6)) (h3 : gsY_X11_wrong_1 NF 2 v1 f1 w1 g1 = (v264, f265, w266, g267)) (h4 : gsY_X11_countUnit_1 NF v264 f265 w266 g267 = (v275, f276, w277, g278)) (h5 : gsY_X11_openUp_1 NF 20 v275 f276 w277 g278 = (v284, f285, w286, g287)) : gsY_X11_unit_1_J204 NF f1 g1 l1_1 v1 w1 k1 = k1 l1_1 v284 f285 w286 g287 := by
  simp only [gsY_X11_unit_1_J204, if_pos h0, h1, if_neg h2, h3, h4, h5, ite11, ite01, if_true, if_false]
def gsY_X11_close_1_L1 (NF : Nat) (p1 : Int32) : Nat → (Nat → Int32) → (Nat → Nat → Int32) → (Int64) → (Nat → Int64) → (Nat → Int32) × (Nat → Nat → Int32) × (Int64) × (Nat → Int64)
  | 0, _, _, _, _ => ((fun _ => 0), (fun _ _ => 0), 0, (fun _ => 0))
  | n1 + 1, v1, f1, w1, g1 =>
    if (v1 10) ≤ 0 then
      (v1, f1, w1, g1)
    else
      let t3 : Int32 := (v1 10) - 1
      let t5 : Int32 := f1 6 (t3).toNatClampNeg
      if t5 = 20 then
        (v1, f1, w1, g1)
      else
        let r7 : Int32 := gsY_X11_tight_1 NF t5 v1 f1 w1 g1
        if r7 < p1 then
          (v1, f1, w1, g1)
        else
          if t5 = 21 then
            match gsY_X11_add_1 NF 2 0 (upd v1 10 t3) f1 w1 g1 with
            | (v25, f26, w27, g28) =>
              let t33 : Int32 := (v1 14) - 1
              gsY_X11_close_1_L1 NF p1 n1 (upd v25 14 t33) f26 w27 g28
          else
            match gsY_X11_add_1 NF 3 t5 (upd v1 10 t3) f1 w1 g1 with
            | (v16, f17, w18, g19) =>
              gsY_X11_close_1_L1 NF p1 n1 v16 f17 w18 g19
def gsY_X11_close_1 (NF : Nat) (p1 : Int32) (v : Nat → Int32) (f : Nat → Nat → Int32) (w : Int64) (g : Nat → Int64) : (Nat → Int32) × (Nat → Nat → Int32) × (Int64) × (Nat → Int64) :=
  gsY_X11_close_1_L1 NF p1 (4294967296 + NF) v f w g
theorem gsY_X11_close_1_q5 {NF : Nat} {p1 : Int32} {v : Nat → Int32} {f : Nat → Nat → Int32} {w : Int64} {g : Nat → Int64}  : gsY_X11_close_1 NF p1 v f w g = gsY_X11_close_1_L1 NF p1 (4294967296 + NF) v f w g := by
  simp only [gsY_X11_close_1]
theorem gsY_X11_close_1_q0 {NF : Nat} {p1 : Int32} {n1 : Nat} {v1 : Nat → Int32} {f1 : Nat → Nat → Int32} {w1 : Int64} {g1 : Nat → Int64} (h0 : ((v1 10) ≤ 0)) : gsY_X11_close_1_L1 NF p1 (n1 + 1) v1 f1 w1 g1 = (v1, f1, w1, g1) := by
  simp only [gsY_X11_close_1_L1, if_pos h0]
theorem gsY_X11_close_1_q1 {NF : Nat} {p1 : Int32} {n1 : Nat} {v1 : Nat → Int32} {f1 : Nat → Nat → Int32} {w1 : Int64} {g1 : Nat → Int64} {t3 : Int32} {t5 : Int32} (h0 : ¬ ((v1 10) ≤ 0)) (h1 : t3 = (v1 10) - 1) (h2 : t5 = f1 6 (t3).toNatClampNeg) (h3 : (t5 = 20)) : gsY_X11_close_1_L1 NF p1 (n1 + 1) v1 f1 w1 g1 = (v1, f1, w1, g1) := by
  subst h1 h2
  simp only [gsY_X11_close_1_L1, if_neg h0, if_pos h3]
theorem gsY_X11_close_1_q2 {NF : Nat} {p1 : Int32} {n1 : Nat} {v1 : Nat → Int32} {f1 : Nat → Nat → Int32} {w1 : Int64} {g1 : Nat → Int64} {t3 : Int32} {t5 : Int32} {r7 : Int32} (h0 : ¬ ((v1 10) ≤ 0)) (h1 : t3 = (v1 10) - 1) (h2 : t5 = f1 6 (t3).toNatClampNeg) (h3 : ¬ (t5 = 20)) (h4 : r7 = gsY_X11_tight_1 NF t5 v1 f1 w1 g1) (h5 : (r7 < p1)) : gsY_X11_close_1_L1 NF p1 (n1 + 1) v1 f1 w1 g1 = (v1, f1, w1, g1) := by
  subst h1 h2 h4
  simp only [gsY_X11_close_1_L1, if_neg h0, if_neg h3, if_pos h5]
theorem gsY_X11_close_1_q3 {NF : Nat} {p1 : Int32} {n1 : Nat} {v1 : Nat → Int32} {f1 : Nat → Nat → Int32} {w1 : Int64} {g1 : Nat → Int64} {t3 : Int32} {t5 : Int32} {r7 : Int32} {v16 : Nat → Int32} {f17 : Nat → Nat → Int32} {w18 : Int64} {g19 : Nat → Int64} (h0 : ¬ ((v1 10) ≤ 0)) (h1 : t3 = (v1 10) - 1) (h2 : t5 = f1 6 (t3).toNatClampNeg) (h3 : ¬ (t5 = 20)) (h4 : r7 = gsY_X11_tight_1 NF t5 v1 f1 w1 g1) (h5 : ¬ (r7 < p1)) (h6 : ¬ (t5 = 21)) (h7 : gsY_X11_add_1 NF 3 t5 (upd v1 10 t3) f1 w1 g1 = (v16, f17, w18, g19)) : gsY_X11_close_1_L1 NF p1 (n1 + 1) v1 f1 w1 g1 = gsY_X11_close_1_L1 NF p1 n1 v16 f17 w18 g19 := by
  subst h1 h2 h4
  simp only [gsY_X11_close_1_L1, if_neg h0, if_neg h3, if_neg h5, if_neg h6, h7]
theorem gsY_X11_close_1_q4 {NF : Nat} {p1 : Int32} {n1 : Nat} {v1 : Nat → Int32} {f1 : Nat → Nat → Int32} {w1 : Int64} {g1 : Nat → Int64} {t3 : Int32} {t5 : Int32} {r7 : Int32} {v25 : Nat → Int32} {f26 : Nat → Nat → Int32} {w27 : Int64} {g28 : Nat → Int64} {t33 : Int32} (h0 : ¬ ((v1 10) ≤ 0)) (h1 : t3 = (v1 10) - 1) (h2 : t5 = f1 6 (t3).toNatClampNeg) (h3 : ¬ (t5 = 20)) (h4 : r7 = gsY_X11_tight_1 NF t5 v1 f1 w1 g1) (h5 : ¬ (r7 < p1)) (h6 : (t5 = 21)) (h7 : gsY_X11_add_1 NF 2 0 (upd v1 10 t3) f1 w1 g1 = (v25, f26, w27, g28)) (h8 : t33 = (v1 14) - 1) : gsY_X11_close_1_L1 NF p1 (n1 + 1) v1 f1 w1 g1 = gsY_X11_close_1_L1 NF p1 n1 (upd v25 14 t33) f26 w27 g28 := by
  subst h1 h2 h4 h8
  simp only [gsY_X11_close_1_L1, if_neg h0, if_neg h3, if_neg h5, if_pos h6, h7]
def gsY_X11_hasBracket_1_L1 (NF : Nat) (v : Nat → Int32) (f : Nat → Nat → Int32) : Nat → (Int32) → (Int32) → Int32
  | 0, _, _ => 0
  | n1 + 1, l1_1, l2_1 =>
    if (v 10) ≤ l2_1 then
      l1_1
    else
      if l1_1 = 0 then
        let t11 : Int32 := f 6 (l2_1).toNatClampNeg
        if t11 = 20 then
          let t15 : Int32 := l2_1 + 1
          gsY_X11_hasBracket_1_L1 NF v f n1 1 t15
        else
          let t13 : Int32 := l2_1 + 1
          gsY_X11_hasBracket_1_L1 NF v f n1 0 t13
      else
        let t9 : Int32 := l2_1 + 1
        gsY_X11_hasBracket_1_L1 NF v f n1 1 t9
def gsY_X11_hasBracket_1 (NF : Nat) (v : Nat → Int32) (f : Nat → Nat → Int32) (w : Int64) (g : Nat → Int64) : Int32 :=
  gsY_X11_hasBracket_1_L1 NF v f (4294967296 + NF) 0 0
theorem gsY_X11_hasBracket_1_q4 {NF : Nat} {v : Nat → Int32} {f : Nat → Nat → Int32} {w : Int64} {g : Nat → Int64}  : gsY_X11_hasBracket_1 NF v f w g = gsY_X11_hasBracket_1_L1 NF v f (4294967296 + NF) 0 0 := by
  simp only [gsY_X11_hasBracket_1]
theorem gsY_X11_hasBracket_1_q0 {NF : Nat} {v : Nat → Int32} {f : Nat → Nat → Int32} {n1 : Nat} {l1_1 : Int32} {l2_1 : Int32} (h0 : ((v 10) ≤ l2_1)) : gsY_X11_hasBracket_1_L1 NF v f (n1 + 1) l1_1 l2_1 = l1_1 := by
  simp only [gsY_X11_hasBracket_1_L1, if_pos h0]
theorem gsY_X11_hasBracket_1_q1 {NF : Nat} {v : Nat → Int32} {f : Nat → Nat → Int32} {n1 : Nat} {l1_1 : Int32} {l2_1 : Int32} {t9 : Int32} (h0 : ¬ ((v 10) ≤ l2_1)) (h1 : ¬ (l1_1 = 0)) (h2 : t9 = l2_1 + 1) : gsY_X11_hasBracket_1_L1 NF v f (n1 + 1) l1_1 l2_1 = gsY_X11_hasBracket_1_L1 NF v f n1 1 t9 := by
  subst h2
  simp only [gsY_X11_hasBracket_1_L1, if_neg h0, if_neg h1]
theorem gsY_X11_hasBracket_1_q2 {NF : Nat} {v : Nat → Int32} {f : Nat → Nat → Int32} {n1 : Nat} {l1_1 : Int32} {l2_1 : Int32} {t11 : Int32} {t13 : Int32} (h0 : ¬ ((v 10) ≤ l2_1)) (h1 : (l1_1 = 0)) (h2 : t11 = f 6 (l2_1).toNatClampNeg) (h3 : ¬ (t11 = 20)) (h4 : t13 = l2_1 + 1) : gsY_X11_hasBracket_1_L1 NF v f (n1 + 1) l1_1 l2_1 = gsY_X11_hasBracket_1_L1 NF v f n1 0 t13 := by
  subst h2 h4
  simp only [gsY_X11_hasBracket_1_L1, if_neg h0, if_pos h1, if_neg h3]
theorem gsY_X11_hasBracket_1_q3 {NF : Nat} {v : Nat → Int32} {f : Nat → Nat → Int32} {n1 : Nat} {l1_1 : Int32} {l2_1 : Int32} {t11 : Int32} {t15 : Int32} (h0 : ¬ ((v 10) ≤ l2_1)) (h1 : (l1_1 = 0)) (h2 : t11 = f 6 (l2_1).toNatClampNeg) (h3 : (t11 = 20)) (h4 : t15 = l2_1 + 1) : gsY_X11_hasBracket_1_L1 NF v f (n1 + 1) l1_1 l2_1 = gsY_X11_hasBracket_1_L1 NF v f n1 1 t15 := by
  subst h2 h4
  simp only [gsY_X11_hasBracket_1_L1, if_neg h0, if_pos h1, if_pos h3]
def gsY_X11_sign_1 (NF : Nat) (v : Nat → Int32) (f : Nat → Nat → Int32) (w : Int64) (g : Nat → Int64) : Int32 :=
  if gsY_X11_isWord_1 NF (6385252 : Int64) v f w g = 1 then
    38
  else
    if gsY_X11_isWord_1 NF (28530 : Int64) v f w g = 1 then
      124
    else
      if (v 5) = 60 then
        (v 5)
      else
        if (v 5) = 62 then
          (v 5)
        else
          if (v 5) = 61 then
            (v 5)
          else
            if (v 5) = 43 then
              (v 5)
            else
              if (v 5) = 45 then
                (v 5)
              else
                if (v 5) = 42 then
                  (v 5)
                else
                  if (v 5) = 47 then
                    (v 5)
                  else
                    if (v 5) = 37 then
                      (v 5)
                    else
                      0
theorem gsY_X11_sign_1_q0 {NF : Nat} {v : Nat → Int32} {f : Nat → Nat → Int32} {w : Int64} {g : Nat → Int64} (h0 : gsY_X11_isWord_1 NF (6385252 : Int64) v f w g = 1) : gsY_X11_sign_1 NF v f w g = 38 := by
  simp only [gsY_X11_sign_1, h0, ite11, ite01, if_true, if_false]
theorem gsY_X11_sign_1_q1 {NF : Nat} {v : Nat → Int32} {f : Nat → Nat → Int32} {w : Int64} {g : Nat → Int64} (h0 : gsY_X11_isWord_1 NF (6385252 : Int64) v f w g = 0) (h1 : gsY_X11_isWord_1 NF (28530 : Int64) v f w g = 1) : gsY_X11_sign_1 NF v f w g = 124 := by
  simp only [gsY_X11_sign_1, h0, h1, ite11, ite01, if_true, if_false]
theorem gsY_X11_sign_1_q2 {NF : Nat} {v : Nat → Int32} {f : Nat → Nat → Int32} {w : Int64} {g : Nat → Int64} (h0 : gsY_X11_isWord_1 NF (6385252 : Int64) v f w g = 0) (h1 : gsY_X11_isWord_1 NF (28530 : Int64) v f w g = 0) (h2 : ((v 5) = 60)) : gsY_X11_sign_1 NF v f w g = (v 5) := by
  simp only [gsY_X11_sign_1, h0, h1, if_pos h2, ite11, ite01, if_true, if_false]
theorem gsY_X11_sign_1_q3 {NF : Nat} {v : Nat → Int32} {f : Nat → Nat → Int32} {w : Int64} {g : Nat → Int64} (h0 : gsY_X11_isWord_1 NF (6385252 : Int64) v f w g = 0) (h1 : gsY_X11_isWord_1 NF (28530 : Int64) v f w g = 0) (h2 : ¬ ((v 5) = 60)) (h3 : ((v 5) = 62)) : gsY_X11_sign_1 NF v f w g = (v 5) := by
  simp only [gsY_X11_sign_1, h0, h1, if_neg h2, if_pos h3, ite11, ite01, if_true, if_false]
theorem gsY_X11_sign_1_q4 {NF : Nat} {v : Nat → Int32} {f : Nat → Nat → Int32} {w : Int64} {g : Nat → Int64} (h0 : gsY_X11_isWord_1 NF (6385252 : Int64) v f w g = 0) (h1 : gsY_X11_isWord_1 NF (28530 : Int64) v f w g = 0) (h2 : ¬ ((v 5) = 60)) (h3 : ¬ ((v 5) = 62)) (h4 : ((v 5) = 61)) : gsY_X11_sign_1 NF v f w g = (v 5) := by
  simp only [gsY_X11_sign_1, h0, h1, if_neg h2, if_neg h3, if_pos h4, ite11, ite01, if_true, if_false]
theorem gsY_X11_sign_1_q5 {NF : Nat} {v : Nat → Int32} {f : Nat → Nat → Int32} {w : Int64} {g : Nat → Int64} (h0 : gsY_X11_isWord_1 NF (6385252 : Int64) v f w g = 0) (h1 : gsY_X11_isWord_1 NF (28530 : Int64) v f w g = 0) (h2 : ¬ ((v 5) = 60)) (h3 : ¬ ((v 5) = 62)) (h4 : ¬ ((v 5) = 61)) (h5 : ((v 5) = 43)) : gsY_X11_sign_1 NF v f w g = (v 5) := by
  simp only [gsY_X11_sign_1, h0, h1, if_neg h2, if_neg h3, if_neg h4, if_pos h5, ite11, ite01, if_true, if_false]
theorem gsY_X11_sign_1_q6 {NF : Nat} {v : Nat → Int32} {f : Nat → Nat → Int32} {w : Int64} {g : Nat → Int64} (h0 : gsY_X11_isWord_1 NF (6385252 : Int64) v f w g = 0) (h1 : gsY_X11_isWord_1 NF (28530 : Int64) v f w g = 0) (h2 : ¬ ((v 5) = 60)) (h3 : ¬ ((v 5) = 62)) (h4 : ¬ ((v 5) = 61)) (h5 : ¬ ((v 5) = 43)) (h6 : ((v 5) = 45)) : gsY_X11_sign_1 NF v f w g = (v 5) := by
  simp only [gsY_X11_sign_1, h0, h1, if_neg h2, if_neg h3, if_neg h4, if_neg h5, if_pos h6, ite11, ite01, if_true, if_false]
theorem gsY_X11_sign_1_q7 {NF : Nat} {v : Nat → Int32} {f : Nat → Nat → Int32} {w : Int64} {g : Nat → Int64} (h0 : gsY_X11_isWord_1 NF (6385252 : Int64) v f w g = 0) (h1 : gsY_X11_isWord_1 NF (28530 : Int64) v f w g = 0) (h2 : ¬ ((v 5) = 60)) (h3 : ¬ ((v 5) = 62)) (h4 : ¬ ((v 5) = 61)) (h5 : ¬ ((v 5) = 43)) (h6 : ¬ ((v 5) = 45)) (h7 : ((v 5) = 42)) : gsY_X11_sign_1 NF v f w g = (v 5) := by
  simp only [gsY_X11_sign_1, h0, h1, if_neg h2, if_neg h3, if_neg h4, if_neg h5, if_neg h6, if_pos h7, ite11, ite01, if_true, if_false]
theorem gsY_X11_sign_1_q8 {NF : Nat} {v : Nat → Int32} {f : Nat → Nat → Int32} {w : Int64} {g : Nat → Int64} (h0 : gsY_X11_isWord_1 NF (6385252 : Int64) v f w g = 0) (h1 : gsY_X11_isWord_1 NF (28530 : Int64) v f w g = 0) (h2 : ¬ ((v 5) = 60)) (h3 : ¬ ((v 5) = 62)) (h4 : ¬ ((v 5) = 61)) (h5 : ¬ ((v 5) = 43)) (h6 : ¬ ((v 5) = 45)) (h7 : ¬ ((v 5) = 42)) (h8 : ((v 5) = 47)) : gsY_X11_sign_1 NF v f w g = (v 5) := by
  simp only [gsY_X11_sign_1, h0, h1, if_neg h2, if_neg h3, if_neg h4, if_neg h5, if_neg h6, if_neg h7, if_pos h8, ite11, ite01, if_true, if_false]
theorem gsY_X11_sign_1_q9 {NF : Nat} {v : Nat → Int32} {f : Nat → Nat → Int32} {w : Int64} {g : Nat → Int64} (h0 : gsY_X11_isWord_1 NF (6385252 : Int64) v f w g = 0) (h1 : gsY_X11_isWord_1 NF (28530 : Int64) v f w g = 0) (h2 : ¬ ((v 5) = 60)) (h3 : ¬ ((v 5) = 62)) (h4 : ¬ ((v 5) = 61)) (h5 : ¬ ((v 5) = 43)) (h6 : ¬ ((v 5) = 45)) (h7 : ¬ ((v 5) = 42)) (h8 : ¬ ((v 5) = 47)) (h9 : ¬ ((v 5) = 37)) : gsY_X11_sign_1 NF v f w g = 0 := by
  simp only [gsY_X11_sign_1, h0, h1, if_neg h2, if_neg h3, if_neg h4, if_neg h5, if_neg h6, if_neg h7, if_neg h8, if_neg h9, ite11, ite01, if_true, if_false]
theorem gsY_X11_sign_1_q10 {NF : Nat} {v : Nat → Int32} {f : Nat → Nat → Int32} {w : Int64} {g : Nat → Int64} (h0 : gsY_X11_isWord_1 NF (6385252 : Int64) v f w g = 0) (h1 : gsY_X11_isWord_1 NF (28530 : Int64) v f w g = 0) (h2 : ¬ ((v 5) = 60)) (h3 : ¬ ((v 5) = 62)) (h4 : ¬ ((v 5) = 61)) (h5 : ¬ ((v 5) = 43)) (h6 : ¬ ((v 5) = 45)) (h7 : ¬ ((v 5) = 42)) (h8 : ¬ ((v 5) = 47)) (h9 : ((v 5) = 37)) : gsY_X11_sign_1 NF v f w g = (v 5) := by
  simp only [gsY_X11_sign_1, h0, h1, if_neg h2, if_neg h3, if_neg h4, if_neg h5, if_neg h6, if_neg h7, if_neg h8, if_pos h9, ite11, ite01, if_true, if_false]
def gsY_X11_hasRelation_1_L3 (NF : Nat) (v : Nat → Int32) (f : Nat → Nat → Int32) (w : Int64) (g : Nat → Int64) : Nat → (Int32) → Int32
  | 0, _ => 0
  | n3 + 1, l1_3 =>
    if l1_3 < 0 then
      if l1_3 < 0 then
        0
      else
        let t6 : Int32 := f 6 (l1_3).toNatClampNeg
        if t6 = 20 then
          0
        else
          let r8 : Int32 := gsY_X11_tight_1 NF t6 v f w g
          if r8 = 4 then
            1
          else
            0
    else
      let t11 : Int32 := f 6 (l1_3).toNatClampNeg
      if t11 = 20 then
        if l1_3 < 0 then
          0
        else
          if t11 = 20 then
            0
          else
            let r15 : Int32 := gsY_X11_tight_1 NF t11 v f w g
            if r15 = 4 then
              1
            else
              0
      else
        let r18 : Int32 := gsY_X11_tight_1 NF t11 v f w g
        if r18 ≤ 4 then
          if l1_3 < 0 then
            0
          else
            if t11 = 20 then
              0
            else
              let r23 : Int32 := gsY_X11_tight_1 NF t11 v f w g
              if r23 = 4 then
                1
              else
                0
        else
          let t26 : Int32 := l1_3 + (-1)
          gsY_X11_hasRelation_1_L3 NF v f w g n3 t26
def gsY_X11_hasRelation_1 (NF : Nat) (v : Nat → Int32) (f : Nat → Nat → Int32) (w : Int64) (g : Nat → Int64) : Int32 :=
  let t1 : Int32 := (v 10) - 1
  gsY_X11_hasRelation_1_L3 NF v f w g (4294967296 + NF) t1
theorem gsY_X11_hasRelation_1_q13 {NF : Nat} {v : Nat → Int32} {f : Nat → Nat → Int32} {w : Int64} {g : Nat → Int64} {t1 : Int32} (h0 : t1 = (v 10) - 1) : gsY_X11_hasRelation_1 NF v f w g = gsY_X11_hasRelation_1_L3 NF v f w g (4294967296 + NF) t1 := by
  subst h0
  simp only [gsY_X11_hasRelation_1]
theorem gsY_X11_hasRelation_1_q0 {NF : Nat} {v : Nat → Int32} {f : Nat → Nat → Int32} {w : Int64} {g : Nat → Int64} {n3 : Nat} {l1_3 : Int32} (h0 : (l1_3 < 0)) (h1 : (l1_3 < 0)) : gsY_X11_hasRelation_1_L3 NF v f w g (n3 + 1) l1_3 = 0 := by
  simp only [gsY_X11_hasRelation_1_L3, if_pos h0, if_pos h1]
theorem gsY_X11_hasRelation_1_q1 {NF : Nat} {v : Nat → Int32} {f : Nat → Nat → Int32} {w : Int64} {g : Nat → Int64} {n3 : Nat} {l1_3 : Int32} {t6 : Int32} (h0 : (l1_3 < 0)) (h1 : ¬ (l1_3 < 0)) (h2 : t6 = f 6 (l1_3).toNatClampNeg) (h3 : (t6 = 20)) : gsY_X11_hasRelation_1_L3 NF v f w g (n3 + 1) l1_3 = 0 := by
  exact absurd h0 h1
theorem gsY_X11_hasRelation_1_q2 {NF : Nat} {v : Nat → Int32} {f : Nat → Nat → Int32} {w : Int64} {g : Nat → Int64} {n3 : Nat} {l1_3 : Int32} {t6 : Int32} {r8 : Int32} (h0 : (l1_3 < 0)) (h1 : ¬ (l1_3 < 0)) (h2 : t6 = f 6 (l1_3).toNatClampNeg) (h3 : ¬ (t6 = 20)) (h4 : r8 = gsY_X11_tight_1 NF t6 v f w g) (h5 : ¬ (r8 = 4)) : gsY_X11_hasRelation_1_L3 NF v f w g (n3 + 1) l1_3 = 0 := by
  exact absurd h0 h1
theorem gsY_X11_hasRelation_1_q3 {NF : Nat} {v : Nat → Int32} {f : Nat → Nat → Int32} {w : Int64} {g : Nat → Int64} {n3 : Nat} {l1_3 : Int32} {t6 : Int32} {r8 : Int32} (h0 : (l1_3 < 0)) (h1 : ¬ (l1_3 < 0)) (h2 : t6 = f 6 (l1_3).toNatClampNeg) (h3 : ¬ (t6 = 20)) (h4 : r8 = gsY_X11_tight_1 NF t6 v f w g) (h5 : (r8 = 4)) : gsY_X11_hasRelation_1_L3 NF v f w g (n3 + 1) l1_3 = 1 := by
  exact absurd h0 h1
theorem gsY_X11_hasRelation_1_q4 {NF : Nat} {v : Nat → Int32} {f : Nat → Nat → Int32} {w : Int64} {g : Nat → Int64} {n3 : Nat} {l1_3 : Int32} {t11 : Int32} (h0 : ¬ (l1_3 < 0)) (h1 : t11 = f 6 (l1_3).toNatClampNeg) (h2 : (t11 = 20)) (h3 : (l1_3 < 0)) : gsY_X11_hasRelation_1_L3 NF v f w g (n3 + 1) l1_3 = 0 := by
  exact absurd h3 h0
theorem gsY_X11_hasRelation_1_q5 {NF : Nat} {v : Nat → Int32} {f : Nat → Nat → Int32} {w : Int64} {g : Nat → Int64} {n3 : Nat} {l1_3 : Int32} {t11 : Int32} (h0 : ¬ (l1_3 < 0)) (h1 : t11 = f 6 (l1_3).toNatClampNeg) (h2 : (t11 = 20)) (h3 : ¬ (l1_3 < 0)) (h4 : (t11 = 20)) : gsY_X11_hasRelation_1_L3 NF v f w g (n3 + 1) l1_3 = 0 := by
  subst h1
  simp only [gsY_X11_hasRelation_1_L3, if_neg h0, if_pos h2, if_neg h3, if_pos h4]
theorem gsY_X11_hasRelation_1_q6 {NF : Nat} {v : Nat → Int32} {f : Nat → Nat → Int32} {w : Int64} {g : Nat → Int64} {n3 : Nat} {l1_3 : Int32} {t11 : Int32} {r15 : Int32} (h0 : ¬ (l1_3 < 0)) (h1 : t11 = f 6 (l1_3).toNatClampNeg) (h2 : (t11 = 20)) (h3 : ¬ (l1_3 < 0)) (h4 : ¬ (t11 = 20)) (h5 : r15 = gsY_X11_tight_1 NF t11 v f w g) (h6 : ¬ (r15 = 4)) : gsY_X11_hasRelation_1_L3 NF v f w g (n3 + 1) l1_3 = 0 := by
  exact absurd h2 h4
theorem gsY_X11_hasRelation_1_q7 {NF : Nat} {v : Nat → Int32} {f : Nat → Nat → Int32} {w : Int64} {g : Nat → Int64} {n3 : Nat} {l1_3 : Int32} {t11 : Int32} {r15 : Int32} (h0 : ¬ (l1_3 < 0)) (h1 : t11 = f 6 (l1_3).toNatClampNeg) (h2 : (t11 = 20)) (h3 : ¬ (l1_3 < 0)) (h4 : ¬ (t11 = 20)) (h5 : r15 = gsY_X11_tight_1 NF t11 v f w g) (h6 : (r15 = 4)) : gsY_X11_hasRelation_1_L3 NF v f w g (n3 + 1) l1_3 = 1 := by
  exact absurd h2 h4
theorem gsY_X11_hasRelation_1_q8 {NF : Nat} {v : Nat → Int32} {f : Nat → Nat → Int32} {w : Int64} {g : Nat → Int64} {n3 : Nat} {l1_3 : Int32} {t11 : Int32} {r18 : Int32} (h0 : ¬ (l1_3 < 0)) (h1 : t11 = f 6 (l1_3).toNatClampNeg) (h2 : ¬ (t11 = 20)) (h3 : r18 = gsY_X11_tight_1 NF t11 v f w g) (h4 : (r18 ≤ 4)) (h5 : (l1_3 < 0)) : gsY_X11_hasRelation_1_L3 NF v f w g (n3 + 1) l1_3 = 0 := by
  exact absurd h5 h0
theorem gsY_X11_hasRelation_1_q9 {NF : Nat} {v : Nat → Int32} {f : Nat → Nat → Int32} {w : Int64} {g : Nat → Int64} {n3 : Nat} {l1_3 : Int32} {t11 : Int32} {r18 : Int32} (h0 : ¬ (l1_3 < 0)) (h1 : t11 = f 6 (l1_3).toNatClampNeg) (h2 : ¬ (t11 = 20)) (h3 : r18 = gsY_X11_tight_1 NF t11 v f w g) (h4 : (r18 ≤ 4)) (h5 : ¬ (l1_3 < 0)) (h6 : (t11 = 20)) : gsY_X11_hasRelation_1_L3 NF v f w g (n3 + 1) l1_3 = 0 := by
  exact absurd h6 h2
theorem gsY_X11_hasRelation_1_q10 {NF : Nat} {v : Nat → Int32} {f : Nat → Nat → Int32} {w : Int64} {g : Nat → Int64} {n3 : Nat} {l1_3 : Int32} {t11 : Int32} {r18 : Int32} {r23 : Int32} (h0 : ¬ (l1_3 < 0)) (h1 : t11 = f 6 (l1_3).toNatClampNeg) (h2 : ¬ (t11 = 20)) (h3 : r18 = gsY_X11_tight_1 NF t11 v f w g) (h4 : (r18 ≤ 4)) (h5 : ¬ (l1_3 < 0)) (h6 : ¬ (t11 = 20)) (h7 : r23 = gsY_X11_tight_1 NF t11 v f w g) (h8 : ¬ (r23 = 4)) : gsY_X11_hasRelation_1_L3 NF v f w g (n3 + 1) l1_3 = 0 := by
  subst h1 h3 h7
  simp only [gsY_X11_hasRelation_1_L3, if_neg h0, if_neg h2, if_pos h4, if_neg h5, if_neg h6, if_neg h8]
theorem gsY_X11_hasRelation_1_q11 {NF : Nat} {v : Nat → Int32} {f : Nat → Nat → Int32} {w : Int64} {g : Nat → Int64} {n3 : Nat} {l1_3 : Int32} {t11 : Int32} {r18 : Int32} {r23 : Int32} (h0 : ¬ (l1_3 < 0)) (h1 : t11 = f 6 (l1_3).toNatClampNeg) (h2 : ¬ (t11 = 20)) (h3 : r18 = gsY_X11_tight_1 NF t11 v f w g) (h4 : (r18 ≤ 4)) (h5 : ¬ (l1_3 < 0)) (h6 : ¬ (t11 = 20)) (h7 : r23 = gsY_X11_tight_1 NF t11 v f w g) (h8 : (r23 = 4)) : gsY_X11_hasRelation_1_L3 NF v f w g (n3 + 1) l1_3 = 1 := by
  subst h1 h3 h7
  simp only [gsY_X11_hasRelation_1_L3, if_neg h0, if_neg h2, if_pos h4, if_neg h5, if_neg h6, if_pos h8]
theorem gsY_X11_hasRelation_1_q12 {NF : Nat} {v : Nat → Int32} {f : Nat → Nat → Int32} {w : Int64} {g : Nat → Int64} {n3 : Nat} {l1_3 : Int32} {t11 : Int32} {r18 : Int32} {t26 : Int32} (h0 : ¬ (l1_3 < 0)) (h1 : t11 = f 6 (l1_3).toNatClampNeg) (h2 : ¬ (t11 = 20)) (h3 : r18 = gsY_X11_tight_1 NF t11 v f w g) (h4 : ¬ (r18 ≤ 4)) (h5 : t26 = l1_3 + (-1)) : gsY_X11_hasRelation_1_L3 NF v f w g (n3 + 1) l1_3 = gsY_X11_hasRelation_1_L3 NF v f w g n3 t26 := by
  subst h1 h3 h5
  simp only [gsY_X11_hasRelation_1_L3, if_neg h0, if_neg h2, if_neg h4]
def gsY_X11_formula_1_J22 (NF : Nat) (f20 : Nat → Nat → Int32) (g20 : Nat → Int64) (v20 : Nat → Int32) (w20 : Int64) : (Nat → Int32) × (Nat → Nat → Int32) × (Int64) × (Nat → Int64) :=
  if (v20 1) = 0 then
    match gsY_X11_close_1 NF 0 v20 f20 w20 g20 with
    | (v25, f26, w27, g28) =>
      (v25, f26, w27, g28)
  else
    (v20, f20, w20, g20)
def gsY_X11_formula_1_J21 (NF : Nat) (f20 : Nat → Nat → Int32) (g20 : Nat → Int64) (v20 : Nat → Int32) (w20 : Int64) : (Nat → Int32) × (Nat → Nat → Int32) × (Int64) × (Nat → Int64) :=
  if (v20 1) = 0 then
    if gsY_X11_hasBracket_1 NF v20 f20 w20 g20 = 1 then
      match gsY_X11_wrong_1 NF 2 v20 f20 w20 g20 with
      | (v42, f43, w44, g45) =>
        if (v42 1) = 0 then
          match gsY_X11_close_1 NF 0 v42 f43 w44 g45 with
          | (v54, f55, w56, g57) =>
            (v54, f55, w56, g57)
        else
          (v42, f43, w44, g45)
    else
      gsY_X11_formula_1_J22 NF f20 g20 v20 w20
  else
    gsY_X11_formula_1_J22 NF f20 g20 v20 w20
def gsY_X11_formula_1_J71 (NF : Nat) (f20 : Nat → Nat → Int32) (g20 : Nat → Int64) (v20 : Nat → Int32) (w20 : Int64) (k20 : Int32 → (Nat → Int32) → (Nat → Nat → Int32) → Int64 → (Nat → Int64) → ((Nat → Int32) × (Nat → Nat → Int32) × (Int64) × (Nat → Int64))) : (Nat → Int32) × (Nat → Nat → Int32) × (Int64) × (Nat → Int64) :=
  k20 0 v20 f20 w20 g20
def gsY_X11_formula_1_J74 (NF : Nat) (f20 : Nat → Nat → Int32) (g20 : Nat → Int64) (l1_20 : Int32) (v20 : Nat → Int32) (w20 : Int64) (r68 : Int32) (k20 : Int32 → (Nat → Int32) → (Nat → Nat → Int32) → Int64 → (Nat → Int64) → ((Nat → Int32) × (Nat → Nat → Int32) × (Int64) × (Nat → Int64))) : (Nat → Int32) × (Nat → Nat → Int32) × (Int64) × (Nat → Int64) :=
  let r75 : Int32 := gsY_X11_tight_1 NF r68 v20 f20 w20 g20
  match gsY_X11_close_1 NF r75 v20 f20 w20 g20 with
  | (v78, f79, w80, g81) =>
    let f90 : Nat → Nat → Int32 := upd2 f79 6 (upd (f79 6) (v78 10).toNatClampNeg r68)
    let t91 : Int32 := (v78 10) + 1
    match gsY_X11_token_1 NF (upd v78 10 t91) f90 w80 g81 with
    | (v94, f95, w96, g97) =>
      match gsY_X11_unit_1 NF v94 f95 w96 g97 with
      | (v104, f105, w106, g107) =>
        k20 l1_20 v104 f105 w106 g107
def gsY_X11_formula_1_J72 (NF : Nat) (f20 : Nat → Nat → Int32) (g20 : Nat → Int64) (l1_20 : Int32) (v20 : Nat → Int32) (w20 : Int64) (r68 : Int32) (k20 : Int32 → (Nat → Int32) → (Nat → Nat → Int32) → Int64 → (Nat → Int64) → ((Nat → Int32) × (Nat → Nat → Int32) × (Int64) × (Nat → Int64))) : (Nat → Int32) × (Nat → Nat → Int32) × (Int64) × (Nat → Int64) :=
  if r68 = 0 then
    gsY_X11_formula_1_J71 NF f20 g20 v20 w20 k20
  else
    let r113 : Int32 := gsY_X11_tight_1 NF r68 v20 f20 w20 g20
    if r113 = 4 then
      if gsY_X11_hasRelation_1 NF v20 f20 w20 g20 = 1 then
        gsY_X11_formula_1_J71 NF f20 g20 v20 w20 k20
      else
        gsY_X11_formula_1_J74 NF f20 g20 l1_20 v20 w20 r68 k20
    else
      gsY_X11_formula_1_J74 NF f20 g20 l1_20 v20 w20 r68 k20
def gsY_X11_formula_1_L20 (NF : Nat) : Nat → (Int32) → (Nat → Int32) → (Nat → Nat → Int32) → (Int64) → (Nat → Int64) → (Nat → Int32) × (Nat → Nat → Int32) × (Int64) × (Nat → Int64)
  | 0, _, _, _, _, _ => ((fun _ => 0), (fun _ _ => 0), 0, (fun _ => 0))
  | n20 + 1, l1_20, v20, f20, w20, g20 =>
    if l1_20 = 0 then
      gsY_X11_formula_1_J21 NF f20 g20 v20 w20
    else
      if (v20 1) = 0 then
        let r68 : Int32 := gsY_X11_sign_1 NF v20 f20 w20 g20
        if (v20 5) = 41 then
          if gsY_X11_hasBracket_1 NF v20 f20 w20 g20 = 1 then
            match gsY_X11_close_1 NF 0 v20 f20 w20 g20 with
            | (v124, f125, w126, g127) =>
              let t136 : Int32 := (v124 10) - 1
              let t138 : Int32 := (v124 14) - 1
              match gsY_X11_token_1 NF (upd (upd v124 10 t136) 14 t138) f125 w126 g127 with
              | (v141, f142, w143, g144) =>
                gsY_X11_formula_1_L20 NF n20 l1_20 v141 f142 w143 g144
          else
            gsY_X11_formula_1_J72 NF f20 g20 l1_20 v20 w20 r68 (fun z0 z1 z2 z3 z4 => gsY_X11_formula_1_L20 NF n20 z0 z1 z2 z3 z4)
        else
          gsY_X11_formula_1_J72 NF f20 g20 l1_20 v20 w20 r68 (fun z0 z1 z2 z3 z4 => gsY_X11_formula_1_L20 NF n20 z0 z1 z2 z3 z4)
      else
        gsY_X11_formula_1_J21 NF f20 g20 v20 w20
def gsY_X11_formula_1 (NF : Nat) (v : Nat → Int32) (f : Nat → Nat → Int32) (w : Int64) (g : Nat → Int64) : (Nat → Int32) × (Nat → Nat → Int32) × (Int64) × (Nat → Int64) :=
  match gsY_X11_token_1 NF v f w g with
  | (v2, f3, w4, g5) =>
    match gsY_X11_unit_1 NF (upd (upd (upd (upd (upd v2 15 1) 8 0) 10 0) 14 0) 13 0) f3 w4 g5 with
    | (v12, f13, w14, g15) =>
      gsY_X11_formula_1_L20 NF (4294967296 + NF) 1 v12 f13 w14 g15
theorem gsY_X11_formula_1_q17 {NF : Nat} {v : Nat → Int32} {f : Nat → Nat → Int32} {w : Int64} {g : Nat → Int64} {v2 : Nat → Int32} {f3 : Nat → Nat → Int32} {w4 : Int64} {g5 : Nat → Int64} {v12 : Nat → Int32} {f13 : Nat → Nat → Int32} {w14 : Int64} {g15 : Nat → Int64} (h0 : gsY_X11_token_1 NF v f w g = (v2, f3, w4, g5)) (h1 : gsY_X11_unit_1 NF (upd (upd (upd (upd (upd v2 15 1) 8 0) 10 0) 14 0) 13 0) f3 w4 g5 = (v12, f13, w14, g15)) : gsY_X11_formula_1 NF v f w g = gsY_X11_formula_1_L20 NF (4294967296 + NF) 1 v12 f13 w14 g15 := by
  simp only [gsY_X11_formula_1, h0, h1]
theorem gsY_X11_formula_1_q6 {NF : Nat} {n20 : Nat} {l1_20 : Int32} {v20 : Nat → Int32} {f20 : Nat → Nat → Int32} {w20 : Int64} {g20 : Nat → Int64} (h0 : (l1_20 = 0)) : gsY_X11_formula_1_L20 NF (n20 + 1) l1_20 v20 f20 w20 g20 = gsY_X11_formula_1_J21 NF f20 g20 v20 w20 := by
  simp only [gsY_X11_formula_1_L20, if_pos h0]
theorem gsY_X11_formula_1_q7 {NF : Nat} {n20 : Nat} {l1_20 : Int32} {v20 : Nat → Int32} {f20 : Nat → Nat → Int32} {w20 : Int64} {g20 : Nat → Int64} (h0 : ¬ (l1_20 = 0)) (h1 : ¬ ((v20 1) = 0)) : gsY_X11_formula_1_L20 NF (n20 + 1) l1_20 v20 f20 w20 g20 = gsY_X11_formula_1_J21 NF f20 g20 v20 w20 := by
  simp only [gsY_X11_formula_1_L20, if_neg h0, if_neg h1]
theorem gsY_X11_formula_1_q14 {NF : Nat} {n20 : Nat} {l1_20 : Int32} {v20 : Nat → Int32} {f20 : Nat → Nat → Int32} {w20 : Int64} {g20 : Nat → Int64} {r68 : Int32} (h0 : ¬ (l1_20 = 0)) (h1 : ((v20 1) = 0)) (h2 : r68 = gsY_X11_sign_1 NF v20 f20 w20 g20) (h3 : ¬ ((v20 5) = 41)) : gsY_X11_formula_1_L20 NF (n20 + 1) l1_20 v20 f20 w20 g20 = gsY_X11_formula_1_J72 NF f20 g20 l1_20 v20 w20 r68 (fun z0 z1 z2 z3 z4 => gsY_X11_formula_1_L20 NF n20 z0 z1 z2 z3 z4) := by
  subst h2
  simp only [gsY_X11_formula_1_L20, if_neg h0, if_pos h1, if_neg h3]
theorem gsY_X11_formula_1_q15 {NF : Nat} {n20 : Nat} {l1_20 : Int32} {v20 : Nat → Int32} {f20 : Nat → Nat → Int32} {w20 : Int64} {g20 : Nat → Int64} {r68 : Int32} {v124 : Nat → Int32} {f125 : Nat → Nat → Int32} {w126 : Int64} {g127 : Nat → Int64} {t136 : Int32} {t138 : Int32} {v141 : Nat → Int32} {f142 : Nat → Nat → Int32} {w143 : Int64} {g144 : Nat → Int64} (h0 : ¬ (l1_20 = 0)) (h1 : ((v20 1) = 0)) (h2 : r68 = gsY_X11_sign_1 NF v20 f20 w20 g20) (h3 : ((v20 5) = 41)) (h4 : gsY_X11_hasBracket_1 NF v20 f20 w20 g20 = 1) (h5 : gsY_X11_close_1 NF 0 v20 f20 w20 g20 = (v124, f125, w126, g127)) (h6 : t136 = (v124 10) - 1) (h7 : t138 = (v124 14) - 1) (h8 : gsY_X11_token_1 NF (upd (upd v124 10 t136) 14 t138) f125 w126 g127 = (v141, f142, w143, g144)) : gsY_X11_formula_1_L20 NF (n20 + 1) l1_20 v20 f20 w20 g20 = gsY_X11_formula_1_L20 NF n20 l1_20 v141 f142 w143 g144 := by
  subst h2 h6 h7
  simp only [gsY_X11_formula_1_L20, if_neg h0, if_pos h1, if_pos h3, h4, h5, h8, ite11, ite01, if_true, if_false]
theorem gsY_X11_formula_1_q16 {NF : Nat} {n20 : Nat} {l1_20 : Int32} {v20 : Nat → Int32} {f20 : Nat → Nat → Int32} {w20 : Int64} {g20 : Nat → Int64} {r68 : Int32} (h0 : ¬ (l1_20 = 0)) (h1 : ((v20 1) = 0)) (h2 : r68 = gsY_X11_sign_1 NF v20 f20 w20 g20) (h3 : ((v20 5) = 41)) (h4 : gsY_X11_hasBracket_1 NF v20 f20 w20 g20 = 0) : gsY_X11_formula_1_L20 NF (n20 + 1) l1_20 v20 f20 w20 g20 = gsY_X11_formula_1_J72 NF f20 g20 l1_20 v20 w20 r68 (fun z0 z1 z2 z3 z4 => gsY_X11_formula_1_L20 NF n20 z0 z1 z2 z3 z4) := by
  subst h2
  simp only [gsY_X11_formula_1_L20, if_neg h0, if_pos h1, if_pos h3, h4, ite11, ite01, if_true, if_false]
theorem gsY_X11_formula_1_q2 {NF : Nat} {f20 : Nat → Nat → Int32} {g20 : Nat → Int64} {v20 : Nat → Int32} {w20 : Int64} (h0 : ¬ ((v20 1) = 0)) : gsY_X11_formula_1_J21 NF f20 g20 v20 w20 = gsY_X11_formula_1_J22 NF f20 g20 v20 w20 := by
  simp only [gsY_X11_formula_1_J21, if_neg h0]
theorem gsY_X11_formula_1_q3 {NF : Nat} {f20 : Nat → Nat → Int32} {g20 : Nat → Int64} {v20 : Nat → Int32} {w20 : Int64} {v42 : Nat → Int32} {f43 : Nat → Nat → Int32} {w44 : Int64} {g45 : Nat → Int64} (h0 : ((v20 1) = 0)) (h1 : gsY_X11_hasBracket_1 NF v20 f20 w20 g20 = 1) (h2 : gsY_X11_wrong_1 NF 2 v20 f20 w20 g20 = (v42, f43, w44, g45)) (h3 : ¬ ((v42 1) = 0)) : gsY_X11_formula_1_J21 NF f20 g20 v20 w20 = (v42, f43, w44, g45) := by
  simp only [gsY_X11_formula_1_J21, if_pos h0, h1, h2, if_neg h3, ite11, ite01, if_true, if_false]
theorem gsY_X11_formula_1_q4 {NF : Nat} {f20 : Nat → Nat → Int32} {g20 : Nat → Int64} {v20 : Nat → Int32} {w20 : Int64} {v42 : Nat → Int32} {f43 : Nat → Nat → Int32} {w44 : Int64} {g45 : Nat → Int64} {v54 : Nat → Int32} {f55 : Nat → Nat → Int32} {w56 : Int64} {g57 : Nat → Int64} (h0 : ((v20 1) = 0)) (h1 : gsY_X11_hasBracket_1 NF v20 f20 w20 g20 = 1) (h2 : gsY_X11_wrong_1 NF 2 v20 f20 w20 g20 = (v42, f43, w44, g45)) (h3 : ((v42 1) = 0)) (h4 : gsY_X11_close_1 NF 0 v42 f43 w44 g45 = (v54, f55, w56, g57)) : gsY_X11_formula_1_J21 NF f20 g20 v20 w20 = (v54, f55, w56, g57) := by
  simp only [gsY_X11_formula_1_J21, if_pos h0, h1, h2, if_pos h3, h4, ite11, ite01, if_true, if_false]
theorem gsY_X11_formula_1_q5 {NF : Nat} {f20 : Nat → Nat → Int32} {g20 : Nat → Int64} {v20 : Nat → Int32} {w20 : Int64} (h0 : ((v20 1) = 0)) (h1 : gsY_X11_hasBracket_1 NF v20 f20 w20 g20 = 0) : gsY_X11_formula_1_J21 NF f20 g20 v20 w20 = gsY_X11_formula_1_J22 NF f20 g20 v20 w20 := by
  simp only [gsY_X11_formula_1_J21, if_pos h0, h1, ite11, ite01, if_true, if_false]
theorem gsY_X11_formula_1_q0 {NF : Nat} {f20 : Nat → Nat → Int32} {g20 : Nat → Int64} {v20 : Nat → Int32} {w20 : Int64} (h0 : ¬ ((v20 1) = 0)) : gsY_X11_formula_1_J22 NF f20 g20 v20 w20 = (v20, f20, w20, g20) := by
  simp only [gsY_X11_formula_1_J22, if_neg h0]
theorem gsY_X11_formula_1_q1 {NF : Nat} {f20 : Nat → Nat → Int32} {g20 : Nat → Int64} {v20 : Nat → Int32} {w20 : Int64} {v25 : Nat → Int32} {f26 : Nat → Nat → Int32} {w27 : Int64} {g28 : Nat → Int64} (h0 : ((v20 1) = 0)) (h1 : gsY_X11_close_1 NF 0 v20 f20 w20 g20 = (v25, f26, w27, g28)) : gsY_X11_formula_1_J22 NF f20 g20 v20 w20 = (v25, f26, w27, g28) := by
  simp only [gsY_X11_formula_1_J22, if_pos h0, h1]
theorem gsY_X11_formula_1_q8 {NF : Nat} {f20 : Nat → Nat → Int32} {g20 : Nat → Int64} {v20 : Nat → Int32} {w20 : Int64} {k20 : Int32 → (Nat → Int32) → (Nat → Nat → Int32) → Int64 → (Nat → Int64) → ((Nat → Int32) × (Nat → Nat → Int32) × (Int64) × (Nat → Int64))}  : gsY_X11_formula_1_J71 NF f20 g20 v20 w20 k20 = k20 0 v20 f20 w20 g20 := by
  simp only [gsY_X11_formula_1_J71]
theorem gsY_X11_formula_1_q9 {NF : Nat} {f20 : Nat → Nat → Int32} {g20 : Nat → Int64} {l1_20 : Int32} {v20 : Nat → Int32} {w20 : Int64} {r68 : Int32} {k20 : Int32 → (Nat → Int32) → (Nat → Nat → Int32) → Int64 → (Nat → Int64) → ((Nat → Int32) × (Nat → Nat → Int32) × (Int64) × (Nat → Int64))} (h0 : (r68 = 0)) : gsY_X11_formula_1_J72 NF f20 g20 l1_20 v20 w20 r68 k20 = gsY_X11_formula_1_J71 NF f20 g20 v20 w20 k20 := by
  simp only [gsY_X11_formula_1_J72, if_pos h0]
theorem gsY_X11_formula_1_q11 {NF : Nat} {f20 : Nat → Nat → Int32} {g20 : Nat → Int64} {l1_20 : Int32} {v20 : Nat → Int32} {w20 : Int64} {r68 : Int32} {r113 : Int32} {k20 : Int32 → (Nat → Int32) → (Nat → Nat → Int32) → Int64 → (Nat → Int64) → ((Nat → Int32) × (Nat → Nat → Int32) × (Int64) × (Nat → Int64))} (h0 : ¬ (r68 = 0)) (h1 : r113 = gsY_X11_tight_1 NF r68 v20 f20 w20 g20) (h2 : ¬ (r113 = 4)) : gsY_X11_formula_1_J72 NF f20 g20 l1_20 v20 w20 r68 k20 = gsY_X11_formula_1_J74 NF f20 g20 l1_20 v20 w20 r68 k20 := by
  subst h1
  simp only [gsY_X11_formula_1_J72, if_neg h0, if_neg h2]
theorem gsY_X11_formula_1_q12 {NF : Nat} {f20 : Nat → Nat → Int32} {g20 : Nat → Int64} {l1_20 : Int32} {v20 : Nat → Int32} {w20 : Int64} {r68 : Int32} {r113 : Int32} {k20 : Int32 → (Nat → Int32) → (Nat → Nat → Int32) → Int64 → (Nat → Int64) → ((Nat → Int32) × (Nat → Nat → Int32) × (Int64) × (Nat → Int64))} (h0 : ¬ (r68 = 0)) (h1 : r113 = gsY_X11_tight_1 NF r68 v20 f20 w20 g20) (h2 : (r113 = 4)) (h3 : gsY_X11_hasRelation_1 NF v20 f20 w20 g20 = 1) : gsY_X11_formula_1_J72 NF f20 g20 l1_20 v20 w20 r68 k20 = gsY_X11_formula_1_J71 NF f20 g20 v20 w20 k20 := by
  subst h1
  simp only [gsY_X11_formula_1_J72, if_neg h0, if_pos h2, h3, ite11, ite01, if_true, if_false]
theorem gsY_X11_formula_1_q13 {NF : Nat} {f20 : Nat → Nat → Int32} {g20 : Nat → Int64} {l1_20 : Int32} {v20 : Nat → Int32} {w20 : Int64} {r68 : Int32} {r113 : Int32} {k20 : Int32 → (Nat → Int32) → (Nat → Nat → Int32) → Int64 → (Nat → Int64) → ((Nat → Int32) × (Nat → Nat → Int32) × (Int64) × (Nat → Int64))} (h0 : ¬ (r68 = 0)) (h1 : r113 = gsY_X11_tight_1 NF r68 v20 f20 w20 g20) (h2 : (r113 = 4)) (h3 : gsY_X11_hasRelation_1 NF v20 f20 w20 g20 = 0) : gsY_X11_formula_1_J72 NF f20 g20 l1_20 v20 w20 r68 k20 = gsY_X11_formula_1_J74 NF f20 g20 l1_20 v20 w20 r68 k20 := by
  subst h1
  simp only [gsY_X11_formula_1_J72, if_neg h0, if_pos h2, h3, ite11, ite01, if_true, if_false]
theorem gsY_X11_formula_1_q10 {NF : Nat} {f20 : Nat → Nat → Int32} {g20 : Nat → Int64} {l1_20 : Int32} {v20 : Nat → Int32} {w20 : Int64} {r68 : Int32} {r75 : Int32} {v78 : Nat → Int32} {f79 : Nat → Nat → Int32} {w80 : Int64} {g81 : Nat → Int64} {f90 : Nat → Nat → Int32} {t91 : Int32} {v94 : Nat → Int32} {f95 : Nat → Nat → Int32} {w96 : Int64} {g97 : Nat → Int64} {v104 : Nat → Int32} {f105 : Nat → Nat → Int32} {w106 : Int64} {g107 : Nat → Int64} {k20 : Int32 → (Nat → Int32) → (Nat → Nat → Int32) → Int64 → (Nat → Int64) → ((Nat → Int32) × (Nat → Nat → Int32) × (Int64) × (Nat → Int64))} (h0 : r75 = gsY_X11_tight_1 NF r68 v20 f20 w20 g20) (h1 : gsY_X11_close_1 NF r75 v20 f20 w20 g20 = (v78, f79, w80, g81)) (h2 : f90 = upd2 f79 6 (upd (f79 6) (v78 10).toNatClampNeg r68)) (h3 : t91 = (v78 10) + 1) (h4 : gsY_X11_token_1 NF (upd v78 10 t91) f90 w80 g81 = (v94, f95, w96, g97)) (h5 : gsY_X11_unit_1 NF v94 f95 w96 g97 = (v104, f105, w106, g107)) : gsY_X11_formula_1_J74 NF f20 g20 l1_20 v20 w20 r68 k20 = k20 l1_20 v104 f105 w106 g107 := by
  subst h0 h2 h3
  simp only [gsY_X11_formula_1_J74, h1, h4, h5]
def gsY_X11_isOwn_1 (NF : Nat) (v : Nat → Int32) (f : Nat → Nat → Int32) (w : Int64) (g : Nat → Int64) : Int32 :=
  let t1 : Int32 := lg_cmp w (7168366 : Int64)
  if t1 = 0 then
    1
  else
    let t3 : Int32 := lg_cmp w (1952541804 : Int64)
    if t3 = 0 then
      1
    else
      let t5 : Int32 := lg_cmp w (2003395685 : Int64)
      if t5 = 0 then
        1
      else
        let t7 : Int32 := lg_cmp w (444301539187 : Int64)
        if t7 = 0 then
          1
        else
          let t9 : Int32 := lg_cmp w (1668243828 : Int64)
          if t9 = 0 then
            1
          else
            let t11 : Int32 := lg_cmp w (1936023917 : Int64)
            if t11 = 0 then
              1
            else
              let t13 : Int32 := lg_cmp w (2003792494 : Int64)
              if t13 = 0 then
                1
              else
                let t15 : Int32 := lg_cmp w (6909036 : Int64)
                if t15 = 0 then
                  1
                else
                  let t17 : Int32 := lg_cmp w (1700885369 : Int64)
                  if t17 = 0 then
                    1
                  else
                    let t19 : Int32 := lg_cmp w (1651469428 : Int64)
                    if t19 = 0 then
                      1
                    else
                      let t21 : Int32 := lg_cmp w (1818848101 : Int64)
                      if t21 = 0 then
                        1
                      else
                        let t23 : Int32 := lg_cmp w (1918986606 : Int64)
                        if t23 = 0 then
                          1
                        else
                          let t25 : Int32 := lg_cmp w (1685217655 : Int64)
                          if t25 = 0 then
                            1
                          else
                            let t27 : Int32 := lg_cmp w (499984590964 : Int64)
                            if t27 = 0 then
                              1
                            else
                              let t29 : Int32 := lg_cmp w (465726042981 : Int64)
                              if t29 = 0 then
                                1
                              else
                                let t31 : Int32 := lg_cmp w (495673373300 : Int64)
                                if t31 = 0 then
                                  1
                                else
                                  let t33 : Int32 := lg_cmp w (1819242087 : Int64)
                                  if t33 = 0 then
                                    1
                                  else
                                    let t35 : Int32 := lg_cmp w (6578553 : Int64)
                                    if t35 = 0 then
                                      1
                                    else
                                      let t37 : Int32 := lg_cmp w (6385252 : Int64)
                                      if t37 = 0 then
                                        1
                                      else
                                        let t39 : Int32 := lg_cmp w (28530 : Int64)
                                        if t39 = 0 then
                                          1
                                        else
                                          let t41 : Int32 := lg_cmp w (7237492 : Int64)
                                          if t41 = 0 then
                                            1
                                          else
                                            0
theorem gsY_X11_isOwn_1_q0 {NF : Nat} {v : Nat → Int32} {f : Nat → Nat → Int32} {w : Int64} {g : Nat → Int64} {t1 : Int32} (h0 : t1 = lg_cmp w (7168366 : Int64)) (h1 : (t1 = 0)) : gsY_X11_isOwn_1 NF v f w g = 1 := by
  subst h0
  simp only [gsY_X11_isOwn_1, if_pos h1]
theorem gsY_X11_isOwn_1_q1 {NF : Nat} {v : Nat → Int32} {f : Nat → Nat → Int32} {w : Int64} {g : Nat → Int64} {t1 : Int32} {t3 : Int32} (h0 : t1 = lg_cmp w (7168366 : Int64)) (h1 : ¬ (t1 = 0)) (h2 : t3 = lg_cmp w (1952541804 : Int64)) (h3 : (t3 = 0)) : gsY_X11_isOwn_1 NF v f w g = 1 := by
  subst h0 h2
  simp only [gsY_X11_isOwn_1, if_neg h1, if_pos h3]
theorem gsY_X11_isOwn_1_q2 {NF : Nat} {v : Nat → Int32} {f : Nat → Nat → Int32} {w : Int64} {g : Nat → Int64} {t1 : Int32} {t3 : Int32} {t5 : Int32} (h0 : t1 = lg_cmp w (7168366 : Int64)) (h1 : ¬ (t1 = 0)) (h2 : t3 = lg_cmp w (1952541804 : Int64)) (h3 : ¬ (t3 = 0)) (h4 : t5 = lg_cmp w (2003395685 : Int64)) (h5 : (t5 = 0)) : gsY_X11_isOwn_1 NF v f w g = 1 := by
  subst h0 h2 h4
  simp only [gsY_X11_isOwn_1, if_neg h1, if_neg h3, if_pos h5]
theorem gsY_X11_isOwn_1_q3 {NF : Nat} {v : Nat → Int32} {f : Nat → Nat → Int32} {w : Int64} {g : Nat → Int64} {t1 : Int32} {t3 : Int32} {t5 : Int32} {t7 : Int32} (h0 : t1 = lg_cmp w (7168366 : Int64)) (h1 : ¬ (t1 = 0)) (h2 : t3 = lg_cmp w (1952541804 : Int64)) (h3 : ¬ (t3 = 0)) (h4 : t5 = lg_cmp w (2003395685 : Int64)) (h5 : ¬ (t5 = 0)) (h6 : t7 = lg_cmp w (444301539187 : Int64)) (h7 : (t7 = 0)) : gsY_X11_isOwn_1 NF v f w g = 1 := by
  subst h0 h2 h4 h6
  simp only [gsY_X11_isOwn_1, if_neg h1, if_neg h3, if_neg h5, if_pos h7]
theorem gsY_X11_isOwn_1_q4 {NF : Nat} {v : Nat → Int32} {f : Nat → Nat → Int32} {w : Int64} {g : Nat → Int64} {t1 : Int32} {t3 : Int32} {t5 : Int32} {t7 : Int32} {t9 : Int32} (h0 : t1 = lg_cmp w (7168366 : Int64)) (h1 : ¬ (t1 = 0)) (h2 : t3 = lg_cmp w (1952541804 : Int64)) (h3 : ¬ (t3 = 0)) (h4 : t5 = lg_cmp w (2003395685 : Int64)) (h5 : ¬ (t5 = 0)) (h6 : t7 = lg_cmp w (444301539187 : Int64)) (h7 : ¬ (t7 = 0)) (h8 : t9 = lg_cmp w (1668243828 : Int64)) (h9 : (t9 = 0)) : gsY_X11_isOwn_1 NF v f w g = 1 := by
  subst h0 h2 h4 h6 h8
  simp only [gsY_X11_isOwn_1, if_neg h1, if_neg h3, if_neg h5, if_neg h7, if_pos h9]
theorem gsY_X11_isOwn_1_q5 {NF : Nat} {v : Nat → Int32} {f : Nat → Nat → Int32} {w : Int64} {g : Nat → Int64} {t1 : Int32} {t3 : Int32} {t5 : Int32} {t7 : Int32} {t9 : Int32} {t11 : Int32} (h0 : t1 = lg_cmp w (7168366 : Int64)) (h1 : ¬ (t1 = 0)) (h2 : t3 = lg_cmp w (1952541804 : Int64)) (h3 : ¬ (t3 = 0)) (h4 : t5 = lg_cmp w (2003395685 : Int64)) (h5 : ¬ (t5 = 0)) (h6 : t7 = lg_cmp w (444301539187 : Int64)) (h7 : ¬ (t7 = 0)) (h8 : t9 = lg_cmp w (1668243828 : Int64)) (h9 : ¬ (t9 = 0)) (h10 : t11 = lg_cmp w (1936023917 : Int64)) (h11 : (t11 = 0)) : gsY_X11_isOwn_1 NF v f w g = 1 := by
  subst h0 h2 h4 h6 h8 h10
  simp only [gsY_X11_isOwn_1, if_neg h1, if_neg h3, if_neg h5, if_neg h7, if_neg h9, if_pos h11]
theorem gsY_X11_isOwn_1_q6 {NF : Nat} {v : Nat → Int32} {f : Nat → Nat → Int32} {w : Int64} {g : Nat → Int64} {t1 : Int32} {t3 : Int32} {t5 : Int32} {t7 : Int32} {t9 : Int32} {t11 : Int32} {t13 : Int32} (h0 : t1 = lg_cmp w (7168366 : Int64)) (h1 : ¬ (t1 = 0)) (h2 : t3 = lg_cmp w (1952541804 : Int64)) (h3 : ¬ (t3 = 0)) (h4 : t5 = lg_cmp w (2003395685 : Int64)) (h5 : ¬ (t5 = 0)) (h6 : t7 = lg_cmp w (444301539187 : Int64)) (h7 : ¬ (t7 = 0)) (h8 : t9 = lg_cmp w (1668243828 : Int64)) (h9 : ¬ (t9 = 0)) (h10 : t11 = lg_cmp w (1936023917 : Int64)) (h11 : ¬ (t11 = 0)) (h12 : t13 = lg_cmp w (2003792494 : Int64)) (h13 : (t13 = 0)) : gsY_X11_isOwn_1 NF v f w g = 1 := by
  subst h0 h2 h4 h6 h8 h10 h12
  simp only [gsY_X11_isOwn_1, if_neg h1, if_neg h3, if_neg h5, if_neg h7, if_neg h9, if_neg h11, if_pos h13]
theorem gsY_X11_isOwn_1_q7 {NF : Nat} {v : Nat → Int32} {f : Nat → Nat → Int32} {w : Int64} {g : Nat → Int64} {t1 : Int32} {t3 : Int32} {t5 : Int32} {t7 : Int32} {t9 : Int32} {t11 : Int32} {t13 : Int32} {t15 : Int32} (h0 : t1 = lg_cmp w (7168366 : Int64)) (h1 : ¬ (t1 = 0)) (h2 : t3 = lg_cmp w (1952541804 : Int64)) (h3 : ¬ (t3 = 0)) (h4 : t5 = lg_cmp w (2003395685 : Int64)) (h5 : ¬ (t5 = 0)) (h6 : t7 = lg_cmp w (444301539187 : Int64)) (h7 : ¬ (t7 = 0)) (h8 : t9 = lg_cmp w (1668243828 : Int64)) (h9 : ¬ (t9 = 0)) (h10 : t11 = lg_cmp w (1936023917 : Int64)) (h11 : ¬ (t11 = 0)) (h12 : t13 = lg_cmp w (2003792494 : Int64)) (h13 : ¬ (t13 = 0)) (h14 : t15 = lg_cmp w (6909036 : Int64)) (h15 : (t15 = 0)) : gsY_X11_isOwn_1 NF v f w g = 1 := by
  subst h0 h2 h4 h6 h8 h10 h12 h14
  simp only [gsY_X11_isOwn_1, if_neg h1, if_neg h3, if_neg h5, if_neg h7, if_neg h9, if_neg h11, if_neg h13, if_pos h15]
theorem gsY_X11_isOwn_1_q8 {NF : Nat} {v : Nat → Int32} {f : Nat → Nat → Int32} {w : Int64} {g : Nat → Int64} {t1 : Int32} {t3 : Int32} {t5 : Int32} {t7 : Int32} {t9 : Int32} {t11 : Int32} {t13 : Int32} {t15 : Int32} {t17 : Int32} (h0 : t1 = lg_cmp w (7168366 : Int64)) (h1 : ¬ (t1 = 0)) (h2 : t3 = lg_cmp w (1952541804 : Int64)) (h3 : ¬ (t3 = 0)) (h4 : t5 = lg_cmp w (2003395685 : Int64)) (h5 : ¬ (t5 = 0)) (h6 : t7 = lg_cmp w (444301539187 : Int64)) (h7 : ¬ (t7 = 0)) (h8 : t9 = lg_cmp w (1668243828 : Int64)) (h9 : ¬ (t9 = 0)) (h10 : t11 = lg_cmp w (1936023917 : Int64)) (h11 : ¬ (t11 = 0)) (h12 : t13 = lg_cmp w (2003792494 : Int64)) (h13 : ¬ (t13 = 0)) (h14 : t15 = lg_cmp w (6909036 : Int64)) (h15 : ¬ (t15 = 0)) (h16 : t17 = lg_cmp w (1700885369 : Int64)) (h17 : (t17 = 0)) : gsY_X11_isOwn_1 NF v f w g = 1 := by
  subst h0 h2 h4 h6 h8 h10 h12 h14 h16
  simp only [gsY_X11_isOwn_1, if_neg h1, if_neg h3, if_neg h5, if_neg h7, if_neg h9, if_neg h11, if_neg h13, if_neg h15, if_pos h17]
theorem gsY_X11_isOwn_1_q9 {NF : Nat} {v : Nat → Int32} {f : Nat → Nat → Int32} {w : Int64} {g : Nat → Int64} {t1 : Int32} {t3 : Int32} {t5 : Int32} {t7 : Int32} {t9 : Int32} {t11 : Int32} {t13 : Int32} {t15 : Int32} {t17 : Int32} {t19 : Int32} (h0 : t1 = lg_cmp w (7168366 : Int64)) (h1 : ¬ (t1 = 0)) (h2 : t3 = lg_cmp w (1952541804 : Int64)) (h3 : ¬ (t3 = 0)) (h4 : t5 = lg_cmp w (2003395685 : Int64)) (h5 : ¬ (t5 = 0)) (h6 : t7 = lg_cmp w (444301539187 : Int64)) (h7 : ¬ (t7 = 0)) (h8 : t9 = lg_cmp w (1668243828 : Int64)) (h9 : ¬ (t9 = 0)) (h10 : t11 = lg_cmp w (1936023917 : Int64)) (h11 : ¬ (t11 = 0)) (h12 : t13 = lg_cmp w (2003792494 : Int64)) (h13 : ¬ (t13 = 0)) (h14 : t15 = lg_cmp w (6909036 : Int64)) (h15 : ¬ (t15 = 0)) (h16 : t17 = lg_cmp w (1700885369 : Int64)) (h17 : ¬ (t17 = 0)) (h18 : t19 = lg_cmp w (1651469428 : Int64)) (h19 : (t19 = 0)) : gsY_X11_isOwn_1 NF v f w g = 1 := by
  subst h0 h2 h4 h6 h8 h10 h12 h14 h16 h18
  simp only [gsY_X11_isOwn_1, if_neg h1, if_neg h3, if_neg h5, if_neg h7, if_neg h9, if_neg h11, if_neg h13, if_neg h15, if_neg h17, if_pos h19]
theorem gsY_X11_isOwn_1_q10 {NF : Nat} {v : Nat → Int32} {f : Nat → Nat → Int32} {w : Int64} {g : Nat → Int64} {t1 : Int32} {t3 : Int32} {t5 : Int32} {t7 : Int32} {t9 : Int32} {t11 : Int32} {t13 : Int32} {t15 : Int32} {t17 : Int32} {t19 : Int32} {t21 : Int32} (h0 : t1 = lg_cmp w (7168366 : Int64)) (h1 : ¬ (t1 = 0)) (h2 : t3 = lg_cmp w (1952541804 : Int64)) (h3 : ¬ (t3 = 0)) (h4 : t5 = lg_cmp w (2003395685 : Int64)) (h5 : ¬ (t5 = 0)) (h6 : t7 = lg_cmp w (444301539187 : Int64)) (h7 : ¬ (t7 = 0)) (h8 : t9 = lg_cmp w (1668243828 : Int64)) (h9 : ¬ (t9 = 0)) (h10 : t11 = lg_cmp w (1936023917 : Int64)) (h11 : ¬ (t11 = 0)) (h12 : t13 = lg_cmp w (2003792494 : Int64)) (h13 : ¬ (t13 = 0)) (h14 : t15 = lg_cmp w (6909036 : Int64)) (h15 : ¬ (t15 = 0)) (h16 : t17 = lg_cmp w (1700885369 : Int64)) (h17 : ¬ (t17 = 0)) (h18 : t19 = lg_cmp w (1651469428 : Int64)) (h19 : ¬ (t19 = 0)) (h20 : t21 = lg_cmp w (1818848101 : Int64)) (h21 : (t21 = 0)) : gsY_X11_isOwn_1 NF v f w g = 1 := by
  subst h0 h2 h4 h6 h8 h10 h12 h14 h16 h18 h20
  simp only [gsY_X11_isOwn_1, if_neg h1, if_neg h3, if_neg h5, if_neg h7, if_neg h9, if_neg h11, if_neg h13, if_neg h15, if_neg h17, if_neg h19, if_pos h21]
theorem gsY_X11_isOwn_1_q11 {NF : Nat} {v : Nat → Int32} {f : Nat → Nat → Int32} {w : Int64} {g : Nat → Int64} {t1 : Int32} {t3 : Int32} {t5 : Int32} {t7 : Int32} {t9 : Int32} {t11 : Int32} {t13 : Int32} {t15 : Int32} {t17 : Int32} {t19 : Int32} {t21 : Int32} {t23 : Int32} (h0 : t1 = lg_cmp w (7168366 : Int64)) (h1 : ¬ (t1 = 0)) (h2 : t3 = lg_cmp w (1952541804 : Int64)) (h3 : ¬ (t3 = 0)) (h4 : t5 = lg_cmp w (2003395685 : Int64)) (h5 : ¬ (t5 = 0)) (h6 : t7 = lg_cmp w (444301539187 : Int64)) (h7 : ¬ (t7 = 0)) (h8 : t9 = lg_cmp w (1668243828 : Int64)) (h9 : ¬ (t9 = 0)) (h10 : t11 = lg_cmp w (1936023917 : Int64)) (h11 : ¬ (t11 = 0)) (h12 : t13 = lg_cmp w (2003792494 : Int64)) (h13 : ¬ (t13 = 0)) (h14 : t15 = lg_cmp w (6909036 : Int64)) (h15 : ¬ (t15 = 0)) (h16 : t17 = lg_cmp w (1700885369 : Int64)) (h17 : ¬ (t17 = 0)) (h18 : t19 = lg_cmp w (1651469428 : Int64)) (h19 : ¬ (t19 = 0)) (h20 : t21 = lg_cmp w (1818848101 : Int64)) (h21 : ¬ (t21 = 0)) (h22 : t23 = lg_cmp w (1918986606 : Int64)) (h23 : (t23 = 0)) : gsY_X11_isOwn_1 NF v f w g = 1 := by
  subst h0 h2 h4 h6 h8 h10 h12 h14 h16 h18 h20 h22
  simp only [gsY_X11_isOwn_1, if_neg h1, if_neg h3, if_neg h5, if_neg h7, if_neg h9, if_neg h11, if_neg h13, if_neg h15, if_neg h17, if_neg h19, if_neg h21, if_pos h23]
theorem gsY_X11_isOwn_1_q12 {NF : Nat} {v : Nat → Int32} {f : Nat → Nat → Int32} {w : Int64} {g : Nat → Int64} {t1 : Int32} {t3 : Int32} {t5 : Int32} {t7 : Int32} {t9 : Int32} {t11 : Int32} {t13 : Int32} {t15 : Int32} {t17 : Int32} {t19 : Int32} {t21 : Int32} {t23 : Int32} {t25 : Int32} (h0 : t1 = lg_cmp w (7168366 : Int64)) (h1 : ¬ (t1 = 0)) (h2 : t3 = lg_cmp w (1952541804 : Int64)) (h3 : ¬ (t3 = 0)) (h4 : t5 = lg_cmp w (2003395685 : Int64)) (h5 : ¬ (t5 = 0)) (h6 : t7 = lg_cmp w (444301539187 : Int64)) (h7 : ¬ (t7 = 0)) (h8 : t9 = lg_cmp w (1668243828 : Int64)) (h9 : ¬ (t9 = 0)) (h10 : t11 = lg_cmp w (1936023917 : Int64)) (h11 : ¬ (t11 = 0)) (h12 : t13 = lg_cmp w (2003792494 : Int64)) (h13 : ¬ (t13 = 0)) (h14 : t15 = lg_cmp w (6909036 : Int64)) (h15 : ¬ (t15 = 0)) (h16 : t17 = lg_cmp w (1700885369 : Int64)) (h17 : ¬ (t17 = 0)) (h18 : t19 = lg_cmp w (1651469428 : Int64)) (h19 : ¬ (t19 = 0)) (h20 : t21 = lg_cmp w (1818848101 : Int64)) (h21 : ¬ (t21 = 0)) (h22 : t23 = lg_cmp w (1918986606 : Int64)) (h23 : ¬ (t23 = 0)) (h24 : t25 = lg_cmp w (1685217655 : Int64)) (h25 : (t25 = 0)) : gsY_X11_isOwn_1 NF v f w g = 1 := by
  subst h0 h2 h4 h6 h8 h10 h12 h14 h16 h18 h20 h22 h24
  simp only [gsY_X11_isOwn_1, if_neg h1, if_neg h3, if_neg h5, if_neg h7, if_neg h9, if_neg h11, if_neg h13, if_neg h15, if_neg h17, if_neg h19, if_neg h21, if_neg h23, if_pos h25]
theorem gsY_X11_isOwn_1_q13 {NF : Nat} {v : Nat → Int32} {f : Nat → Nat → Int32} {w : Int64} {g : Nat → Int64} {t1 : Int32} {t3 : Int32} {t5 : Int32} {t7 : Int32} {t9 : Int32} {t11 : Int32} {t13 : Int32} {t15 : Int32} {t17 : Int32} {t19 : Int32} {t21 : Int32} {t23 : Int32} {t25 : Int32} {t27 : Int32} (h0 : t1 = lg_cmp w (7168366 : Int64)) (h1 : ¬ (t1 = 0)) (h2 : t3 = lg_cmp w (1952541804 : Int64)) (h3 : ¬ (t3 = 0)) (h4 : t5 = lg_cmp w (2003395685 : Int64)) (h5 : ¬ (t5 = 0)) (h6 : t7 = lg_cmp w (444301539187 : Int64)) (h7 : ¬ (t7 = 0)) (h8 : t9 = lg_cmp w (1668243828 : Int64)) (h9 : ¬ (t9 = 0)) (h10 : t11 = lg_cmp w (1936023917 : Int64)) (h11 : ¬ (t11 = 0)) (h12 : t13 = lg_cmp w (2003792494 : Int64)) (h13 : ¬ (t13 = 0)) (h14 : t15 = lg_cmp w (6909036 : Int64)) (h15 : ¬ (t15 = 0)) (h16 : t17 = lg_cmp w (1700885369 : Int64)) (h17 : ¬ (t17 = 0)) (h18 : t19 = lg_cmp w (1651469428 : Int64)) (h19 : ¬ (t19 = 0)) (h20 : t21 = lg_cmp w (1818848101 : Int64)) (h21 : ¬ (t21 = 0)) (h22 : t23 = lg_cmp w (1918986606 : Int64)) (h23 : ¬ (t23 = 0)) (h24 : t25 = lg_cmp w (1685217655 : Int64)) (h25 : ¬ (t25 = 0)) (h26 : t27 = lg_cmp w (499984590964 : Int64)) (h27 : (t27 = 0)) : gsY_X11_isOwn_1 NF v f w g = 1 := by
  subst h0 h2 h4 h6 h8 h10 h12 h14 h16 h18 h20 h22 h24 h26
  simp only [gsY_X11_isOwn_1, if_neg h1, if_neg h3, if_neg h5, if_neg h7, if_neg h9, if_neg h11, if_neg h13, if_neg h15, if_neg h17, if_neg h19, if_neg h21, if_neg h23, if_neg h25, if_pos h27]
theorem gsY_X11_isOwn_1_q14 {NF : Nat} {v : Nat → Int32} {f : Nat → Nat → Int32} {w : Int64} {g : Nat → Int64} {t1 : Int32} {t3 : Int32} {t5 : Int32} {t7 : Int32} {t9 : Int32} {t11 : Int32} {t13 : Int32} {t15 : Int32} {t17 : Int32} {t19 : Int32} {t21 : Int32} {t23 : Int32} {t25 : Int32} {t27 : Int32} {t29 : Int32} (h0 : t1 = lg_cmp w (7168366 : Int64)) (h1 : ¬ (t1 = 0)) (h2 : t3 = lg_cmp w (1952541804 : Int64)) (h3 : ¬ (t3 = 0)) (h4 : t5 = lg_cmp w (2003395685 : Int64)) (h5 : ¬ (t5 = 0)) (h6 : t7 = lg_cmp w (444301539187 : Int64)) (h7 : ¬ (t7 = 0)) (h8 : t9 = lg_cmp w (1668243828 : Int64)) (h9 : ¬ (t9 = 0)) (h10 : t11 = lg_cmp w (1936023917 : Int64)) (h11 : ¬ (t11 = 0)) (h12 : t13 = lg_cmp w (2003792494 : Int64)) (h13 : ¬ (t13 = 0)) (h14 : t15 = lg_cmp w (6909036 : Int64)) (h15 : ¬ (t15 = 0)) (h16 : t17 = lg_cmp w (1700885369 : Int64)) (h17 : ¬ (t17 = 0)) (h18 : t19 = lg_cmp w (1651469428 : Int64)) (h19 : ¬ (t19 = 0)) (h20 : t21 = lg_cmp w (1818848101 : Int64)) (h21 : ¬ (t21 = 0)) (h22 : t23 = lg_cmp w (1918986606 : Int64)) (h23 : ¬ (t23 = 0)) (h24 : t25 = lg_cmp w (1685217655 : Int64)) (h25 : ¬ (t25 = 0)) (h26 : t27 = lg_cmp w (499984590964 : Int64)) (h27 : ¬ (t27 = 0)) (h28 : t29 = lg_cmp w (465726042981 : Int64)) (h29 : (t29 = 0)) : gsY_X11_isOwn_1 NF v f w g = 1 := by
  subst h0 h2 h4 h6 h8 h10 h12 h14 h16 h18 h20 h22 h24 h26 h28
  simp only [gsY_X11_isOwn_1, if_neg h1, if_neg h3, if_neg h5, if_neg h7, if_neg h9, if_neg h11, if_neg h13, if_neg h15, if_neg h17, if_neg h19, if_neg h21, if_neg h23, if_neg h25, if_neg h27, if_pos h29]
theorem gsY_X11_isOwn_1_q15 {NF : Nat} {v : Nat → Int32} {f : Nat → Nat → Int32} {w : Int64} {g : Nat → Int64} {t1 : Int32} {t3 : Int32} {t5 : Int32} {t7 : Int32} {t9 : Int32} {t11 : Int32} {t13 : Int32} {t15 : Int32} {t17 : Int32} {t19 : Int32} {t21 : Int32} {t23 : Int32} {t25 : Int32} {t27 : Int32} {t29 : Int32} {t31 : Int32} (h0 : t1 = lg_cmp w (7168366 : Int64)) (h1 : ¬ (t1 = 0)) (h2 : t3 = lg_cmp w (1952541804 : Int64)) (h3 : ¬ (t3 = 0)) (h4 : t5 = lg_cmp w (2003395685 : Int64)) (h5 : ¬ (t5 = 0)) (h6 : t7 = lg_cmp w (444301539187 : Int64)) (h7 : ¬ (t7 = 0)) (h8 : t9 = lg_cmp w (1668243828 : Int64)) (h9 : ¬ (t9 = 0)) (h10 : t11 = lg_cmp w (1936023917 : Int64)) (h11 : ¬ (t11 = 0)) (h12 : t13 = lg_cmp w (2003792494 : Int64)) (h13 : ¬ (t13 = 0)) (h14 : t15 = lg_cmp w (6909036 : Int64)) (h15 : ¬ (t15 = 0)) (h16 : t17 = lg_cmp w (1700885369 : Int64)) (h17 : ¬ (t17 = 0)) (h18 : t19 = lg_cmp w (1651469428 : Int64)) (h19 : ¬ (t19 = 0)) (h20 : t21 = lg_cmp w (1818848101 : Int64)) (h21 : ¬ (t21 = 0)) (h22 : t23 = lg_cmp w (1918986606 : Int64)) (h23 : ¬ (t23 = 0)) (h24 : t25 = lg_cmp w (1685217655 : Int64)) (h25 : ¬ (t25 = 0)) (h26 : t27 = lg_cmp w (499984590964 : Int64)) (h27 : ¬ (t27 = 0)) (h28 : t29 = lg_cmp w (465726042981 : Int64)) (h29 : ¬ (t29 = 0)) (h30 : t31 = lg_cmp w (495673373300 : Int64)) (h31 : (t31 = 0)) : gsY_X11_isOwn_1 NF v f w g = 1 := by
  subst h0 h2 h4 h6 h8 h10 h12 h14 h16 h18 h20 h22 h24 h26 h28 h30
  simp only [gsY_X11_isOwn_1, if_neg h1, if_neg h3, if_neg h5, if_neg h7, if_neg h9, if_neg h11, if_neg h13, if_neg h15, if_neg h17, if_neg h19, if_neg h21, if_neg h23, if_neg h25, if_neg h27, if_neg h29, if_pos h31]
theorem gsY_X11_isOwn_1_q16 {NF : Nat} {v : Nat → Int32} {f : Nat → Nat → Int32} {w : Int64} {g : Nat → Int64} {t1 : Int32} {t3 : Int32} {t5 : Int32} {t7 : Int32} {t9 : Int32} {t11 : Int32} {t13 : Int32} {t15 : Int32} {t17 : Int32} {t19 : Int32} {t21 : Int32} {t23 : Int32} {t25 : Int32} {t27 : Int32} {t29 : Int32} {t31 : Int32} {t33 : Int32} (h0 : t1 = lg_cmp w (7168366 : Int64)) (h1 : ¬ (t1 = 0)) (h2 : t3 = lg_cmp w (1952541804 : Int64)) (h3 : ¬ (t3 = 0)) (h4 : t5 = lg_cmp w (2003395685 : Int64)) (h5 : ¬ (t5 = 0)) (h6 : t7 = lg_cmp w (444301539187 : Int64)) (h7 : ¬ (t7 = 0)) (h8 : t9 = lg_cmp w (1668243828 : Int64)) (h9 : ¬ (t9 = 0)) (h10 : t11 = lg_cmp w (1936023917 : Int64)) (h11 : ¬ (t11 = 0)) (h12 : t13 = lg_cmp w (2003792494 : Int64)) (h13 : ¬ (t13 = 0)) (h14 : t15 = lg_cmp w (6909036 : Int64)) (h15 : ¬ (t15 = 0)) (h16 : t17 = lg_cmp w (1700885369 : Int64)) (h17 : ¬ (t17 = 0)) (h18 : t19 = lg_cmp w (1651469428 : Int64)) (h19 : ¬ (t19 = 0)) (h20 : t21 = lg_cmp w (1818848101 : Int64)) (h21 : ¬ (t21 = 0)) (h22 : t23 = lg_cmp w (1918986606 : Int64)) (h23 : ¬ (t23 = 0)) (h24 : t25 = lg_cmp w (1685217655 : Int64)) (h25 : ¬ (t25 = 0)) (h26 : t27 = lg_cmp w (499984590964 : Int64)) (h27 : ¬ (t27 = 0)) (h28 : t29 = lg_cmp w (465726042981 : Int64)) (h29 : ¬ (t29 = 0)) (h30 : t31 = lg_cmp w (495673373300 : Int64)) (h31 : ¬ (t31 = 0)) (h32 : t33 = lg_cmp w (1819242087 : Int64)) (h33 : (t33 = 0)) : gsY_X11_isOwn_1 NF v f w g = 1 := by
  subst h0 h2 h4 h6 h8 h10 h12 h14 h16 h18 h20 h22 h24 h26 h28 h30 h32
  simp only [gsY_X11_isOwn_1, if_neg h1, if_neg h3, if_neg h5, if_neg h7, if_neg h9, if_neg h11, if_neg h13, if_neg h15, if_neg h17, if_neg h19, if_neg h21, if_neg h23, if_neg h25, if_neg h27, if_neg h29, if_neg h31, if_pos h33]
theorem gsY_X11_isOwn_1_q17 {NF : Nat} {v : Nat → Int32} {f : Nat → Nat → Int32} {w : Int64} {g : Nat → Int64} {t1 : Int32} {t3 : Int32} {t5 : Int32} {t7 : Int32} {t9 : Int32} {t11 : Int32} {t13 : Int32} {t15 : Int32} {t17 : Int32} {t19 : Int32} {t21 : Int32} {t23 : Int32} {t25 : Int32} {t27 : Int32} {t29 : Int32} {t31 : Int32} {t33 : Int32} {t35 : Int32} (h0 : t1 = lg_cmp w (7168366 : Int64)) (h1 : ¬ (t1 = 0)) (h2 : t3 = lg_cmp w (1952541804 : Int64)) (h3 : ¬ (t3 = 0)) (h4 : t5 = lg_cmp w (2003395685 : Int64)) (h5 : ¬ (t5 = 0)) (h6 : t7 = lg_cmp w (444301539187 : Int64)) (h7 : ¬ (t7 = 0)) (h8 : t9 = lg_cmp w (1668243828 : Int64)) (h9 : ¬ (t9 = 0)) (h10 : t11 = lg_cmp w (1936023917 : Int64)) (h11 : ¬ (t11 = 0)) (h12 : t13 = lg_cmp w (2003792494 : Int64)) (h13 : ¬ (t13 = 0)) (h14 : t15 = lg_cmp w (6909036 : Int64)) (h15 : ¬ (t15 = 0)) (h16 : t17 = lg_cmp w (1700885369 : Int64)) (h17 : ¬ (t17 = 0)) (h18 : t19 = lg_cmp w (1651469428 : Int64)) (h19 : ¬ (t19 = 0)) (h20 : t21 = lg_cmp w (1818848101 : Int64)) (h21 : ¬ (t21 = 0)) (h22 : t23 = lg_cmp w (1918986606 : Int64)) (h23 : ¬ (t23 = 0)) (h24 : t25 = lg_cmp w (1685217655 : Int64)) (h25 : ¬ (t25 = 0)) (h26 : t27 = lg_cmp w (499984590964 : Int64)) (h27 : ¬ (t27 = 0)) (h28 : t29 = lg_cmp w (465726042981 : Int64)) (h29 : ¬ (t29 = 0)) (h30 : t31 = lg_cmp w (495673373300 : Int64)) (h31 : ¬ (t31 = 0)) (h32 : t33 = lg_cmp w (1819242087 : Int64)) (h33 : ¬ (t33 = 0)) (h34 : t35 = lg_cmp w (6578553 : Int64)) (h35 : (t35 = 0)) : gsY_X11_isOwn_1 NF v f w g = 1 := by
  subst h0 h2 h4 h6 h8 h10 h12 h14 h16 h18 h20 h22 h24 h26 h28 h30 h32 h34
  simp only [gsY_X11_isOwn_1, if_neg h1, if_neg h3, if_neg h5, if_neg h7, if_neg h9, if_neg h11, if_neg h13, if_neg h15, if_neg h17, if_neg h19, if_neg h21, if_neg h23, if_neg h25, if_neg h27, if_neg h29, if_neg h31, if_neg h33, if_pos h35]
theorem gsY_X11_isOwn_1_q18 {NF : Nat} {v : Nat → Int32} {f : Nat → Nat → Int32} {w : Int64} {g : Nat → Int64} {t1 : Int32} {t3 : Int32} {t5 : Int32} {t7 : Int32} {t9 : Int32} {t11 : Int32} {t13 : Int32} {t15 : Int32} {t17 : Int32} {t19 : Int32} {t21 : Int32} {t23 : Int32} {t25 : Int32} {t27 : Int32} {t29 : Int32} {t31 : Int32} {t33 : Int32} {t35 : Int32} {t37 : Int32} (h0 : t1 = lg_cmp w (7168366 : Int64)) (h1 : ¬ (t1 = 0)) (h2 : t3 = lg_cmp w (1952541804 : Int64)) (h3 : ¬ (t3 = 0)) (h4 : t5 = lg_cmp w (2003395685 : Int64)) (h5 : ¬ (t5 = 0)) (h6 : t7 = lg_cmp w (444301539187 : Int64)) (h7 : ¬ (t7 = 0)) (h8 : t9 = lg_cmp w (1668243828 : Int64)) (h9 : ¬ (t9 = 0)) (h10 : t11 = lg_cmp w (1936023917 : Int64)) (h11 : ¬ (t11 = 0)) (h12 : t13 = lg_cmp w (2003792494 : Int64)) (h13 : ¬ (t13 = 0)) (h14 : t15 = lg_cmp w (6909036 : Int64)) (h15 : ¬ (t15 = 0)) (h16 : t17 = lg_cmp w (1700885369 : Int64)) (h17 : ¬ (t17 = 0)) (h18 : t19 = lg_cmp w (1651469428 : Int64)) (h19 : ¬ (t19 = 0)) (h20 : t21 = lg_cmp w (1818848101 : Int64)) (h21 : ¬ (t21 = 0)) (h22 : t23 = lg_cmp w (1918986606 : Int64)) (h23 : ¬ (t23 = 0)) (h24 : t25 = lg_cmp w (1685217655 : Int64)) (h25 : ¬ (t25 = 0)) (h26 : t27 = lg_cmp w (499984590964 : Int64)) (h27 : ¬ (t27 = 0)) (h28 : t29 = lg_cmp w (465726042981 : Int64)) (h29 : ¬ (t29 = 0)) (h30 : t31 = lg_cmp w (495673373300 : Int64)) (h31 : ¬ (t31 = 0)) (h32 : t33 = lg_cmp w (1819242087 : Int64)) (h33 : ¬ (t33 = 0)) (h34 : t35 = lg_cmp w (6578553 : Int64)) (h35 : ¬ (t35 = 0)) (h36 : t37 = lg_cmp w (6385252 : Int64)) (h37 : (t37 = 0)) : gsY_X11_isOwn_1 NF v f w g = 1 := by
  subst h0 h2 h4 h6 h8 h10 h12 h14 h16 h18 h20 h22 h24 h26 h28 h30 h32 h34 h36
  simp only [gsY_X11_isOwn_1, if_neg h1, if_neg h3, if_neg h5, if_neg h7, if_neg h9, if_neg h11, if_neg h13, if_neg h15, if_neg h17, if_neg h19, if_neg h21, if_neg h23, if_neg h25, if_neg h27, if_neg h29, if_neg h31, if_neg h33, if_neg h35, if_pos h37]
theorem gsY_X11_isOwn_1_q19 {NF : Nat} {v : Nat → Int32} {f : Nat → Nat → Int32} {w : Int64} {g : Nat → Int64} {t1 : Int32} {t3 : Int32} {t5 : Int32} {t7 : Int32} {t9 : Int32} {t11 : Int32} {t13 : Int32} {t15 : Int32} {t17 : Int32} {t19 : Int32} {t21 : Int32} {t23 : Int32} {t25 : Int32} {t27 : Int32} {t29 : Int32} {t31 : Int32} {t33 : Int32} {t35 : Int32} {t37 : Int32} {t39 : Int32} (h0 : t1 = lg_cmp w (7168366 : Int64)) (h1 : ¬ (t1 = 0)) (h2 : t3 = lg_cmp w (1952541804 : Int64)) (h3 : ¬ (t3 = 0)) (h4 : t5 = lg_cmp w (2003395685 : Int64)) (h5 : ¬ (t5 = 0)) (h6 : t7 = lg_cmp w (444301539187 : Int64)) (h7 : ¬ (t7 = 0)) (h8 : t9 = lg_cmp w (1668243828 : Int64)) (h9 : ¬ (t9 = 0)) (h10 : t11 = lg_cmp w (1936023917 : Int64)) (h11 : ¬ (t11 = 0)) (h12 : t13 = lg_cmp w (2003792494 : Int64)) (h13 : ¬ (t13 = 0)) (h14 : t15 = lg_cmp w (6909036 : Int64)) (h15 : ¬ (t15 = 0)) (h16 : t17 = lg_cmp w (1700885369 : Int64)) (h17 : ¬ (t17 = 0)) (h18 : t19 = lg_cmp w (1651469428 : Int64)) (h19 : ¬ (t19 = 0)) (h20 : t21 = lg_cmp w (1818848101 : Int64)) (h21 : ¬ (t21 = 0)) (h22 : t23 = lg_cmp w (1918986606 : Int64)) (h23 : ¬ (t23 = 0)) (h24 : t25 = lg_cmp w (1685217655 : Int64)) (h25 : ¬ (t25 = 0)) (h26 : t27 = lg_cmp w (499984590964 : Int64)) (h27 : ¬ (t27 = 0)) (h28 : t29 = lg_cmp w (465726042981 : Int64)) (h29 : ¬ (t29 = 0)) (h30 : t31 = lg_cmp w (495673373300 : Int64)) (h31 : ¬ (t31 = 0)) (h32 : t33 = lg_cmp w (1819242087 : Int64)) (h33 : ¬ (t33 = 0)) (h34 : t35 = lg_cmp w (6578553 : Int64)) (h35 : ¬ (t35 = 0)) (h36 : t37 = lg_cmp w (6385252 : Int64)) (h37 : ¬ (t37 = 0)) (h38 : t39 = lg_cmp w (28530 : Int64)) (h39 : (t39 = 0)) : gsY_X11_isOwn_1 NF v f w g = 1 := by
  subst h0 h2 h4 h6 h8 h10 h12 h14 h16 h18 h20 h22 h24 h26 h28 h30 h32 h34 h36 h38
  simp only [gsY_X11_isOwn_1, if_neg h1, if_neg h3, if_neg h5, if_neg h7, if_neg h9, if_neg h11, if_neg h13, if_neg h15, if_neg h17, if_neg h19, if_neg h21, if_neg h23, if_neg h25, if_neg h27, if_neg h29, if_neg h31, if_neg h33, if_neg h35, if_neg h37, if_pos h39]
theorem gsY_X11_isOwn_1_q20 {NF : Nat} {v : Nat → Int32} {f : Nat → Nat → Int32} {w : Int64} {g : Nat → Int64} {t1 : Int32} {t3 : Int32} {t5 : Int32} {t7 : Int32} {t9 : Int32} {t11 : Int32} {t13 : Int32} {t15 : Int32} {t17 : Int32} {t19 : Int32} {t21 : Int32} {t23 : Int32} {t25 : Int32} {t27 : Int32} {t29 : Int32} {t31 : Int32} {t33 : Int32} {t35 : Int32} {t37 : Int32} {t39 : Int32} {t41 : Int32} (h0 : t1 = lg_cmp w (7168366 : Int64)) (h1 : ¬ (t1 = 0)) (h2 : t3 = lg_cmp w (1952541804 : Int64)) (h3 : ¬ (t3 = 0)) (h4 : t5 = lg_cmp w (2003395685 : Int64)) (h5 : ¬ (t5 = 0)) (h6 : t7 = lg_cmp w (444301539187 : Int64)) (h7 : ¬ (t7 = 0)) (h8 : t9 = lg_cmp w (1668243828 : Int64)) (h9 : ¬ (t9 = 0)) (h10 : t11 = lg_cmp w (1936023917 : Int64)) (h11 : ¬ (t11 = 0)) (h12 : t13 = lg_cmp w (2003792494 : Int64)) (h13 : ¬ (t13 = 0)) (h14 : t15 = lg_cmp w (6909036 : Int64)) (h15 : ¬ (t15 = 0)) (h16 : t17 = lg_cmp w (1700885369 : Int64)) (h17 : ¬ (t17 = 0)) (h18 : t19 = lg_cmp w (1651469428 : Int64)) (h19 : ¬ (t19 = 0)) (h20 : t21 = lg_cmp w (1818848101 : Int64)) (h21 : ¬ (t21 = 0)) (h22 : t23 = lg_cmp w (1918986606 : Int64)) (h23 : ¬ (t23 = 0)) (h24 : t25 = lg_cmp w (1685217655 : Int64)) (h25 : ¬ (t25 = 0)) (h26 : t27 = lg_cmp w (499984590964 : Int64)) (h27 : ¬ (t27 = 0)) (h28 : t29 = lg_cmp w (465726042981 : Int64)) (h29 : ¬ (t29 = 0)) (h30 : t31 = lg_cmp w (495673373300 : Int64)) (h31 : ¬ (t31 = 0)) (h32 : t33 = lg_cmp w (1819242087 : Int64)) (h33 : ¬ (t33 = 0)) (h34 : t35 = lg_cmp w (6578553 : Int64)) (h35 : ¬ (t35 = 0)) (h36 : t37 = lg_cmp w (6385252 : Int64)) (h37 : ¬ (t37 = 0)) (h38 : t39 = lg_cmp w (28530 : Int64)) (h39 : ¬ (t39 = 0)) (h40 : t41 = lg_cmp w (7237492 : Int64)) (h41 : ¬ (t41 = 0)) : gsY_X11_isOwn_1 NF v f w g = 0 := by
  subst h0 h2 h4 h6 h8 h10 h12 h14 h16 h18 h20 h22 h24 h26 h28 h30 h32 h34 h36 h38 h40
  simp only [gsY_X11_isOwn_1, if_neg h1, if_neg h3, if_neg h5, if_neg h7, if_neg h9, if_neg h11, if_neg h13, if_neg h15, if_neg h17, if_neg h19, if_neg h21, if_neg h23, if_neg h25, if_neg h27, if_neg h29, if_neg h31, if_neg h33, if_neg h35, if_neg h37, if_neg h39, if_neg h41]
theorem gsY_X11_isOwn_1_q21 {NF : Nat} {v : Nat → Int32} {f : Nat → Nat → Int32} {w : Int64} {g : Nat → Int64} {t1 : Int32} {t3 : Int32} {t5 : Int32} {t7 : Int32} {t9 : Int32} {t11 : Int32} {t13 : Int32} {t15 : Int32} {t17 : Int32} {t19 : Int32} {t21 : Int32} {t23 : Int32} {t25 : Int32} {t27 : Int32} {t29 : Int32} {t31 : Int32} {t33 : Int32} {t35 : Int32} {t37 : Int32} {t39 : Int32} {t41 : Int32} (h0 : t1 = lg_cmp w (7168366 : Int64)) (h1 : ¬ (t1 = 0)) (h2 : t3 = lg_cmp w (1952541804 : Int64)) (h3 : ¬ (t3 = 0)) (h4 : t5 = lg_cmp w (2003395685 : Int64)) (h5 : ¬ (t5 = 0)) (h6 : t7 = lg_cmp w (444301539187 : Int64)) (h7 : ¬ (t7 = 0)) (h8 : t9 = lg_cmp w (1668243828 : Int64)) (h9 : ¬ (t9 = 0)) (h10 : t11 = lg_cmp w (1936023917 : Int64)) (h11 : ¬ (t11 = 0)) (h12 : t13 = lg_cmp w (2003792494 : Int64)) (h13 : ¬ (t13 = 0)) (h14 : t15 = lg_cmp w (6909036 : Int64)) (h15 : ¬ (t15 = 0)) (h16 : t17 = lg_cmp w (1700885369 : Int64)) (h17 : ¬ (t17 = 0)) (h18 : t19 = lg_cmp w (1651469428 : Int64)) (h19 : ¬ (t19 = 0)) (h20 : t21 = lg_cmp w (1818848101 : Int64)) (h21 : ¬ (t21 = 0)) (h22 : t23 = lg_cmp w (1918986606 : Int64)) (h23 : ¬ (t23 = 0)) (h24 : t25 = lg_cmp w (1685217655 : Int64)) (h25 : ¬ (t25 = 0)) (h26 : t27 = lg_cmp w (499984590964 : Int64)) (h27 : ¬ (t27 = 0)) (h28 : t29 = lg_cmp w (465726042981 : Int64)) (h29 : ¬ (t29 = 0)) (h30 : t31 = lg_cmp w (495673373300 : Int64)) (h31 : ¬ (t31 = 0)) (h32 : t33 = lg_cmp w (1819242087 : Int64)) (h33 : ¬ (t33 = 0)) (h34 : t35 = lg_cmp w (6578553 : Int64)) (h35 : ¬ (t35 = 0)) (h36 : t37 = lg_cmp w (6385252 : Int64)) (h37 : ¬ (t37 = 0)) (h38 : t39 = lg_cmp w (28530 : Int64)) (h39 : ¬ (t39 = 0)) (h40 : t41 = lg_cmp w (7237492 : Int64)) (h41 : (t41 = 0)) : gsY_X11_isOwn_1 NF v f w g = 1 := by
  subst h0 h2 h4 h6 h8 h10 h12 h14 h16 h18 h20 h22 h24 h26 h28 h30 h32 h34 h36 h38 h40
  simp only [gsY_X11_isOwn_1, if_neg h1, if_neg h3, if_neg h5, if_neg h7, if_neg h9, if_neg h11, if_neg h13, if_neg h15, if_neg h17, if_neg h19, if_neg h21, if_neg h23, if_neg h25, if_neg h27, if_neg h29, if_neg h31, if_neg h33, if_neg h35, if_neg h37, if_neg h39, if_pos h41]
