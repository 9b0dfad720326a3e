def gsX_X6_expression_30 (NF : Nat) (v : Nat → Int32) (f : Nat → Nat → Int32) : Int32 × (Nat → Int32) × (Nat → Nat → Int32) :=
  match gsX_X6_unit_5 NF v f with
  | (r1, v3, f4) =>
    if r1 = 1 then
      (1, v3, f4)
    else
      (0, v3, f4)
theorem gsX_X6_expression_30_q0 {NF : Nat} {v : Nat → Int32} {f : Nat → Nat → Int32} {v3 : Nat → Int32} {f4 : Nat → Nat → Int32} (h0 : gsX_X6_unit_5 NF v f = (1, v3, f4)) : gsX_X6_expression_30 NF v f = (1, v3, f4) := by
  simp only [gsX_X6_expression_30, h0, ite11, ite01, if_true, if_false]
theorem gsX_X6_expression_30_q1 {NF : Nat} {v : Nat → Int32} {f : Nat → Nat → Int32} {v3 : Nat → Int32} {f4 : Nat → Nat → Int32} (h0 : gsX_X6_unit_5 NF v f = (0, v3, f4)) : gsX_X6_expression_30 NF v f = (0, v3, f4) := by
  simp only [gsX_X6_expression_30, h0, ite11, ite01, if_true, if_false]
def gsX_X6_expression_29_L6 (NF : Nat) : Nat → (Int32) → (Nat → Int32) → (Nat → Nat → Int32) → Int32 × (Nat → Int32) × (Nat → Nat → Int32)
  | 0, _, _, _ => (0, (fun _ => 0), (fun _ _ => 0))
  | n6 + 1, l4_6, v6, f6 =>
    if 1600 ≤ l4_6 then
      (1, v6, f6)
    else
      if gsX_X6_joins_1 NF 4 (v6 2) v6 f6 = 1 then
        match gsX_X9_advance_1 NF v6 f6 with
        | (v12, f13) =>
          match gsX_X6_expression_30 NF v12 f13 with
          | (r14, v16, f17) =>
            if r14 = 1 then
              match gsX_X4_add_1 NF (v6 2) 0 v16 f17 with
              | (v20, f21) =>
                let t22 : Int32 := l4_6 + 1
                gsX_X6_expression_29_L6 NF n6 t22 v20 f21
            else
              (0, v16, f17)
      else
        (1, v6, f6)
def gsX_X6_expression_29 (NF : Nat) (v : Nat → Int32) (f : Nat → Nat → Int32) : Int32 × (Nat → Int32) × (Nat → Nat → Int32) :=
  match gsX_X6_expression_30 NF v f with
  | (r1, v3, f4) =>
    if r1 = 1 then
      gsX_X6_expression_29_L6 NF (4294967296 + NF) 0 v3 f4
    else
      (0, v3, f4)
theorem gsX_X6_expression_29_q4 {NF : Nat} {v : Nat → Int32} {f : Nat → Nat → Int32} {v3 : Nat → Int32} {f4 : Nat → Nat → Int32} (h0 : gsX_X6_expression_30 NF v f = (1, v3, f4)) : gsX_X6_expression_29 NF v f = gsX_X6_expression_29_L6 NF (4294967296 + NF) 0 v3 f4 := by
  simp only [gsX_X6_expression_29, h0, ite11, ite01, if_true, if_false]
theorem gsX_X6_expression_29_q5 {NF : Nat} {v : Nat → Int32} {f : Nat → Nat → Int32} {v3 : Nat → Int32} {f4 : Nat → Nat → Int32} (h0 : gsX_X6_expression_30 NF v f = (0, v3, f4)) : gsX_X6_expression_29 NF v f = (0, v3, f4) := by
  simp only [gsX_X6_expression_29, h0, ite11, ite01, if_true, if_false]
theorem gsX_X6_expression_29_q0 {NF : Nat} {n6 : Nat} {l4_6 : Int32} {v6 : Nat → Int32} {f6 : Nat → Nat → Int32} (h0 : (1600 ≤ l4_6)) : gsX_X6_expression_29_L6 NF (n6 + 1) l4_6 v6 f6 = (1, v6, f6) := by
  simp only [gsX_X6_expression_29_L6, if_pos h0]
theorem gsX_X6_expression_29_q1 {NF : Nat} {n6 : Nat} {l4_6 : Int32} {v6 : Nat → Int32} {f6 : Nat → Nat → Int32} {v12 : Nat → Int32} {f13 : Nat → Nat → Int32} {v16 : Nat → Int32} {f17 : Nat → Nat → Int32} {v20 : Nat → Int32} {f21 : Nat → Nat → Int32} {t22 : Int32} (h0 : ¬ (1600 ≤ l4_6)) (h1 : gsX_X6_joins_1 NF 4 (v6 2) v6 f6 = 1) (h2 : gsX_X9_advance_1 NF v6 f6 = (v12, f13)) (h3 : gsX_X6_expression_30 NF v12 f13 = (1, v16, f17)) (h5 : gsX_X4_add_1 NF (v6 2) 0 v16 f17 = (v20, f21)) (h6 : t22 = l4_6 + 1) : gsX_X6_expression_29_L6 NF (n6 + 1) l4_6 v6 f6 = gsX_X6_expression_29_L6 NF n6 t22 v20 f21 := by
  subst h6
  simp only [gsX_X6_expression_29_L6, if_neg h0, h1, h2, h3, h5, ite11, ite01, if_true, if_false]
theorem gsX_X6_expression_29_q2 {NF : Nat} {n6 : Nat} {l4_6 : Int32} {v6 : Nat → Int32} {f6 : Nat → Nat → Int32} {v12 : Nat → Int32} {f13 : Nat → Nat → Int32} {v16 : Nat → Int32} {f17 : Nat → Nat → Int32} (h0 : ¬ (1600 ≤ l4_6)) (h1 : gsX_X6_joins_1 NF 4 (v6 2) v6 f6 = 1) (h2 : gsX_X9_advance_1 NF v6 f6 = (v12, f13)) (h3 : gsX_X6_expression_30 NF v12 f13 = (0, v16, f17)) : gsX_X6_expression_29_L6 NF (n6 + 1) l4_6 v6 f6 = (0, v16, f17) := by
  simp only [gsX_X6_expression_29_L6, if_neg h0, h1, h2, h3, ite11, ite01, if_true, if_false]
theorem gsX_X6_expression_29_q3 {NF : Nat} {n6 : Nat} {l4_6 : Int32} {v6 : Nat → Int32} {f6 : Nat → Nat → Int32} (h0 : ¬ (1600 ≤ l4_6)) (h1 : gsX_X6_joins_1 NF 4 (v6 2) v6 f6 = 0) : gsX_X6_expression_29_L6 NF (n6 + 1) l4_6 v6 f6 = (1, v6, f6) := by
  simp only [gsX_X6_expression_29_L6, if_neg h0, h1, ite11, ite01, if_true, if_false]
def gsX_X6_expression_28_L6 (NF : Nat) : Nat → (Int32) → (Nat → Int32) → (Nat → Nat → Int32) → Int32 × (Nat → Int32) × (Nat → Nat → Int32)
  | 0, _, _, _ => (0, (fun _ => 0), (fun _ _ => 0))
  | n6 + 1, l4_6, v6, f6 =>
    if 1600 ≤ l4_6 then
      (1, v6, f6)
    else
      if gsX_X6_joins_1 NF 3 (v6 2) v6 f6 = 1 then
        match gsX_X9_advance_1 NF v6 f6 with
        | (v12, f13) =>
          match gsX_X6_expression_29 NF v12 f13 with
          | (r14, v16, f17) =>
            if r14 = 1 then
              match gsX_X4_add_1 NF (v6 2) 0 v16 f17 with
              | (v20, f21) =>
                let t22 : Int32 := l4_6 + 1
                gsX_X6_expression_28_L6 NF n6 t22 v20 f21
            else
              (0, v16, f17)
      else
        (1, v6, f6)
def gsX_X6_expression_28 (NF : Nat) (v : Nat → Int32) (f : Nat → Nat → Int32) : Int32 × (Nat → Int32) × (Nat → Nat → Int32) :=
  match gsX_X6_expression_29 NF v f with
  | (r1, v3, f4) =>
    if r1 = 1 then
      gsX_X6_expression_28_L6 NF (4294967296 + NF) 0 v3 f4
    else
      (0, v3, f4)
theorem gsX_X6_expression_28_q4 {NF : Nat} {v : Nat → Int32} {f : Nat → Nat → Int32} {v3 : Nat → Int32} {f4 : Nat → Nat → Int32} (h0 : gsX_X6_expression_29 NF v f = (1, v3, f4)) : gsX_X6_expression_28 NF v f = gsX_X6_expression_28_L6 NF (4294967296 + NF) 0 v3 f4 := by
  simp only [gsX_X6_expression_28, h0, ite11, ite01, if_true, if_false]
theorem gsX_X6_expression_28_q5 {NF : Nat} {v : Nat → Int32} {f : Nat → Nat → Int32} {v3 : Nat → Int32} {f4 : Nat → Nat → Int32} (h0 : gsX_X6_expression_29 NF v f = (0, v3, f4)) : gsX_X6_expression_28 NF v f = (0, v3, f4) := by
  simp only [gsX_X6_expression_28, h0, ite11, ite01, if_true, if_false]
theorem gsX_X6_expression_28_q0 {NF : Nat} {n6 : Nat} {l4_6 : Int32} {v6 : Nat → Int32} {f6 : Nat → Nat → Int32} (h0 : (1600 ≤ l4_6)) : gsX_X6_expression_28_L6 NF (n6 + 1) l4_6 v6 f6 = (1, v6, f6) := by
  simp only [gsX_X6_expression_28_L6, if_pos h0]
theorem gsX_X6_expression_28_q1 {NF : Nat} {n6 : Nat} {l4_6 : Int32} {v6 : Nat → Int32} {f6 : Nat → Nat → Int32} {v12 : Nat → Int32} {f13 : Nat → Nat → Int32} {v16 : Nat → Int32} {f17 : Nat → Nat → Int32} {v20 : Nat → Int32} {f21 : Nat → Nat → Int32} {t22 : Int32} (h0 : ¬ (1600 ≤ l4_6)) (h1 : gsX_X6_joins_1 NF 3 (v6 2) v6 f6 = 1) (h2 : gsX_X9_advance_1 NF v6 f6 = (v12, f13)) (h3 : gsX_X6_expression_29 NF v12 f13 = (1, v16, f17)) (h5 : gsX_X4_add_1 NF (v6 2) 0 v16 f17 = (v20, f21)) (h6 : t22 = l4_6 + 1) : gsX_X6_expression_28_L6 NF (n6 + 1) l4_6 v6 f6 = gsX_X6_expression_28_L6 NF n6 t22 v20 f21 := by
  subst h6
  simp only [gsX_X6_expression_28_L6, if_neg h0, h1, h2, h3, h5, ite11, ite01, if_true, if_false]
theorem gsX_X6_expression_28_q2 {NF : Nat} {n6 : Nat} {l4_6 : Int32} {v6 : Nat → Int32} {f6 : Nat → Nat → Int32} {v12 : Nat → Int32} {f13 : Nat → Nat → Int32} {v16 : Nat → Int32} {f17 : Nat → Nat → Int32} (h0 : ¬ (1600 ≤ l4_6)) (h1 : gsX_X6_joins_1 NF 3 (v6 2) v6 f6 = 1) (h2 : gsX_X9_advance_1 NF v6 f6 = (v12, f13)) (h3 : gsX_X6_expression_29 NF v12 f13 = (0, v16, f17)) : gsX_X6_expression_28_L6 NF (n6 + 1) l4_6 v6 f6 = (0, v16, f17) := by
  simp only [gsX_X6_expression_28_L6, if_neg h0, h1, h2, h3, ite11, ite01, if_true, if_false]
theorem gsX_X6_expression_28_q3 {NF : Nat} {n6 : Nat} {l4_6 : Int32} {v6 : Nat → Int32} {f6 : Nat → Nat → Int32} (h0 : ¬ (1600 ≤ l4_6)) (h1 : gsX_X6_joins_1 NF 3 (v6 2) v6 f6 = 0) : gsX_X6_expression_28_L6 NF (n6 + 1) l4_6 v6 f6 = (1, v6, f6) := by
  simp only [gsX_X6_expression_28_L6, if_neg h0, h1, ite11, ite01, if_true, if_false]
def gsX_X6_negation_4 (NF : Nat) (v : Nat → Int32) (f : Nat → Nat → Int32) : Int32 × (Nat → Int32) × (Nat → Nat → Int32) :=
  match gsX_X9_advance_1 NF v f with
  | (v2, f3) =>
    match gsX_X6_expression_33 NF v2 f3 with
    | (r4, v6, f7) =>
      if r4 = 1 then
        match gsX_X4_add_1 NF 115 0 v6 f7 with
        | (v10, f11) =>
          (1, v10, f11)
      else
        (0, v6, f7)
theorem gsX_X6_negation_4_q0 {NF : Nat} {v : Nat → Int32} {f : Nat → Nat → Int32} {v2 : Nat → Int32} {f3 : Nat → Nat → Int32} {v6 : Nat → Int32} {f7 : Nat → Nat → Int32} {v10 : Nat → Int32} {f11 : Nat → Nat → Int32} (h0 : gsX_X9_advance_1 NF v f = (v2, f3)) (h1 : gsX_X6_expression_33 NF v2 f3 = (1, v6, f7)) (h3 : gsX_X4_add_1 NF 115 0 v6 f7 = (v10, f11)) : gsX_X6_negation_4 NF v f = (1, v10, f11) := by
  simp only [gsX_X6_negation_4, h0, h1, h3, ite11, ite01, if_true, if_false]
theorem gsX_X6_negation_4_q1 {NF : Nat} {v : Nat → Int32} {f : Nat → Nat → Int32} {v2 : Nat → Int32} {f3 : Nat → Nat → Int32} {v6 : Nat → Int32} {f7 : Nat → Nat → Int32} (h0 : gsX_X9_advance_1 NF v f = (v2, f3)) (h1 : gsX_X6_expression_33 NF v2 f3 = (0, v6, f7)) : gsX_X6_negation_4 NF v f = (0, v6, f7) := by
  simp only [gsX_X6_negation_4, h0, h1, ite11, ite01, if_true, if_false]
def gsX_X6_expression_27_L7 (NF : Nat) : Nat → (Int32) → (Nat → Int32) → (Nat → Nat → Int32) → Int32 × (Nat → Int32) × (Nat → Nat → Int32)
  | 0, _, _, _ => (0, (fun _ => 0), (fun _ _ => 0))
  | n7 + 1, l4_7, v7, f7 =>
    if 1 ≤ l4_7 then
      (1, v7, f7)
    else
      if gsX_X6_joins_1 NF 2 (v7 2) v7 f7 = 1 then
        match gsX_X9_advance_1 NF v7 f7 with
        | (v13, f14) =>
          match gsX_X6_expression_28 NF v13 f14 with
          | (r15, v17, f18) =>
            if r15 = 1 then
              match gsX_X4_add_1 NF (v7 2) 0 v17 f18 with
              | (v21, f22) =>
                let t23 : Int32 := l4_7 + 1
                gsX_X6_expression_27_L7 NF n7 t23 v21 f22
            else
              (0, v17, f18)
      else
        (1, v7, f7)
def gsX_X6_expression_27 (NF : Nat) (v : Nat → Int32) (f : Nat → Nat → Int32) : Int32 × (Nat → Int32) × (Nat → Nat → Int32) :=
  if (v 2) = 115 then
    match gsX_X6_negation_4 NF v f with
    | (r26, v28, f29) =>
      if r26 = 1 then
        (1, v28, f29)
      else
        (0, v28, f29)
  else
    match gsX_X6_expression_28 NF v f with
    | (r2, v4, f5) =>
      if r2 = 1 then
        gsX_X6_expression_27_L7 NF (4294967296 + NF) 0 v4 f5
      else
        (0, v4, f5)
theorem gsX_X6_expression_27_q4 {NF : Nat} {v : Nat → Int32} {f : Nat → Nat → Int32} {v4 : Nat → Int32} {f5 : Nat → Nat → Int32} (h0 : ¬ ((v 2) = 115)) (h1 : gsX_X6_expression_28 NF v f = (1, v4, f5)) : gsX_X6_expression_27 NF v f = gsX_X6_expression_27_L7 NF (4294967296 + NF) 0 v4 f5 := by
  simp only [gsX_X6_expression_27, if_neg h0, h1, ite11, ite01, if_true, if_false]
theorem gsX_X6_expression_27_q5 {NF : Nat} {v : Nat → Int32} {f : Nat → Nat → Int32} {v4 : Nat → Int32} {f5 : Nat → Nat → Int32} (h0 : ¬ ((v 2) = 115)) (h1 : gsX_X6_expression_28 NF v f = (0, v4, f5)) : gsX_X6_expression_27 NF v f = (0, v4, f5) := by
  simp only [gsX_X6_expression_27, if_neg h0, h1, ite11, ite01, if_true, if_false]
theorem gsX_X6_expression_27_q6 {NF : Nat} {v : Nat → Int32} {f : Nat → Nat → Int32} {v28 : Nat → Int32} {f29 : Nat → Nat → Int32} (h0 : ((v 2) = 115)) (h1 : gsX_X6_negation_4 NF v f = (1, v28, f29)) : gsX_X6_expression_27 NF v f = (1, v28, f29) := by
  simp only [gsX_X6_expression_27, if_pos h0, h1, ite11, ite01, if_true, if_false]
theorem gsX_X6_expression_27_q7 {NF : Nat} {v : Nat → Int32} {f : Nat → Nat → Int32} {v28 : Nat → Int32} {f29 : Nat → Nat → Int32} (h0 : ((v 2) = 115)) (h1 : gsX_X6_negation_4 NF v f = (0, v28, f29)) : gsX_X6_expression_27 NF v f = (0, v28, f29) := by
  simp only [gsX_X6_expression_27, if_pos h0, h1, ite11, ite01, if_true, if_false]
theorem gsX_X6_expression_27_q0 {NF : Nat} {n7 : Nat} {l4_7 : Int32} {v7 : Nat → Int32} {f7 : Nat → Nat → Int32} (h0 : (1 ≤ l4_7)) : gsX_X6_expression_27_L7 NF (n7 + 1) l4_7 v7 f7 = (1, v7, f7) := by
  simp only [gsX_X6_expression_27_L7, if_pos h0]
theorem gsX_X6_expression_27_q1 {NF : Nat} {n7 : Nat} {l4_7 : Int32} {v7 : Nat → Int32} {f7 : Nat → Nat → Int32} {v13 : Nat → Int32} {f14 : Nat → Nat → Int32} {v17 : Nat → Int32} {f18 : Nat → Nat → Int32} {v21 : Nat → Int32} {f22 : Nat → Nat → Int32} {t23 : Int32} (h0 : ¬ (1 ≤ l4_7)) (h1 : gsX_X6_joins_1 NF 2 (v7 2) v7 f7 = 1) (h2 : gsX_X9_advance_1 NF v7 f7 = (v13, f14)) (h3 : gsX_X6_expression_28 NF v13 f14 = (1, v17, f18)) (h5 : gsX_X4_add_1 NF (v7 2) 0 v17 f18 = (v21, f22)) (h6 : t23 = l4_7 + 1) : gsX_X6_expression_27_L7 NF (n7 + 1) l4_7 v7 f7 = gsX_X6_expression_27_L7 NF n7 t23 v21 f22 := by
  subst h6
  simp only [gsX_X6_expression_27_L7, if_neg h0, h1, h2, h3, h5, ite11, ite01, if_true, if_false]
theorem gsX_X6_expression_27_q2 {NF : Nat} {n7 : Nat} {l4_7 : Int32} {v7 : Nat → Int32} {f7 : Nat → Nat → Int32} {v13 : Nat → Int32} {f14 : Nat → Nat → Int32} {v17 : Nat → Int32} {f18 : Nat → Nat → Int32} (h0 : ¬ (1 ≤ l4_7)) (h1 : gsX_X6_joins_1 NF 2 (v7 2) v7 f7 = 1) (h2 : gsX_X9_advance_1 NF v7 f7 = (v13, f14)) (h3 : gsX_X6_expression_28 NF v13 f14 = (0, v17, f18)) : gsX_X6_expression_27_L7 NF (n7 + 1) l4_7 v7 f7 = (0, v17, f18) := by
  simp only [gsX_X6_expression_27_L7, if_neg h0, h1, h2, h3, ite11, ite01, if_true, if_false]
theorem gsX_X6_expression_27_q3 {NF : Nat} {n7 : Nat} {l4_7 : Int32} {v7 : Nat → Int32} {f7 : Nat → Nat → Int32} (h0 : ¬ (1 ≤ l4_7)) (h1 : gsX_X6_joins_1 NF 2 (v7 2) v7 f7 = 0) : gsX_X6_expression_27_L7 NF (n7 + 1) l4_7 v7 f7 = (1, v7, f7) := by
  simp only [gsX_X6_expression_27_L7, if_neg h0, h1, ite11, ite01, if_true, if_false]
def gsX_X6_expression_26_L6 (NF : Nat) : Nat → (Int32) → (Nat → Int32) → (Nat → Nat → Int32) → Int32 × (Nat → Int32) × (Nat → Nat → Int32)
  | 0, _, _, _ => (0, (fun _ => 0), (fun _ _ => 0))
  | n6 + 1, l4_6, v6, f6 =>
    if 1600 ≤ l4_6 then
      (1, v6, f6)
    else
      if gsX_X6_joins_1 NF 1 (v6 2) v6 f6 = 1 then
        match gsX_X9_advance_1 NF v6 f6 with
        | (v12, f13) =>
          match gsX_X6_expression_27 NF v12 f13 with
          | (r14, v16, f17) =>
            if r14 = 1 then
              match gsX_X4_add_1 NF (v6 2) 0 v16 f17 with
              | (v20, f21) =>
                let t22 : Int32 := l4_6 + 1
                gsX_X6_expression_26_L6 NF n6 t22 v20 f21
            else
              (0, v16, f17)
      else
        (1, v6, f6)
def gsX_X6_expression_26 (NF : Nat) (v : Nat → Int32) (f : Nat → Nat → Int32) : Int32 × (Nat → Int32) × (Nat → Nat → Int32) :=
  match gsX_X6_expression_27 NF v f with
  | (r1, v3, f4) =>
    if r1 = 1 then
      gsX_X6_expression_26_L6 NF (4294967296 + NF) 0 v3 f4
    else
      (0, v3, f4)
theorem gsX_X6_expression_26_q4 {NF : Nat} {v : Nat → Int32} {f : Nat → Nat → Int32} {v3 : Nat → Int32} {f4 : Nat → Nat → Int32} (h0 : gsX_X6_expression_27 NF v f = (1, v3, f4)) : gsX_X6_expression_26 NF v f = gsX_X6_expression_26_L6 NF (4294967296 + NF) 0 v3 f4 := by
  simp only [gsX_X6_expression_26, h0, ite11, ite01, if_true, if_false]
theorem gsX_X6_expression_26_q5 {NF : Nat} {v : Nat → Int32} {f : Nat → Nat → Int32} {v3 : Nat → Int32} {f4 : Nat → Nat → Int32} (h0 : gsX_X6_expression_27 NF v f = (0, v3, f4)) : gsX_X6_expression_26 NF v f = (0, v3, f4) := by
  simp only [gsX_X6_expression_26, h0, ite11, ite01, if_true, if_false]
theorem gsX_X6_expression_26_q0 {NF : Nat} {n6 : Nat} {l4_6 : Int32} {v6 : Nat → Int32} {f6 : Nat → Nat → Int32} (h0 : (1600 ≤ l4_6)) : gsX_X6_expression_26_L6 NF (n6 + 1) l4_6 v6 f6 = (1, v6, f6) := by
  simp only [gsX_X6_expression_26_L6, if_pos h0]
theorem gsX_X6_expression_26_q1 {NF : Nat} {n6 : Nat} {l4_6 : Int32} {v6 : Nat → Int32} {f6 : Nat → Nat → Int32} {v12 : Nat → Int32} {f13 : Nat → Nat → Int32} {v16 : Nat → Int32} {f17 : Nat → Nat → Int32} {v20 : Nat → Int32} {f21 : Nat → Nat → Int32} {t22 : Int32} (h0 : ¬ (1600 ≤ l4_6)) (h1 : gsX_X6_joins_1 NF 1 (v6 2) v6 f6 = 1) (h2 : gsX_X9_advance_1 NF v6 f6 = (v12, f13)) (h3 : gsX_X6_expression_27 NF v12 f13 = (1, v16, f17)) (h5 : gsX_X4_add_1 NF (v6 2) 0 v16 f17 = (v20, f21)) (h6 : t22 = l4_6 + 1) : gsX_X6_expression_26_L6 NF (n6 + 1) l4_6 v6 f6 = gsX_X6_expression_26_L6 NF n6 t22 v20 f21 := by
  subst h6
  simp only [gsX_X6_expression_26_L6, if_neg h0, h1, h2, h3, h5, ite11, ite01, if_true, if_false]
theorem gsX_X6_expression_26_q2 {NF : Nat} {n6 : Nat} {l4_6 : Int32} {v6 : Nat → Int32} {f6 : Nat → Nat → Int32} {v12 : Nat → Int32} {f13 : Nat → Nat → Int32} {v16 : Nat → Int32} {f17 : Nat → Nat → Int32} (h0 : ¬ (1600 ≤ l4_6)) (h1 : gsX_X6_joins_1 NF 1 (v6 2) v6 f6 = 1) (h2 : gsX_X9_advance_1 NF v6 f6 = (v12, f13)) (h3 : gsX_X6_expression_27 NF v12 f13 = (0, v16, f17)) : gsX_X6_expression_26_L6 NF (n6 + 1) l4_6 v6 f6 = (0, v16, f17) := by
  simp only [gsX_X6_expression_26_L6, if_neg h0, h1, h2, h3, ite11, ite01, if_true, if_false]
theorem gsX_X6_expression_26_q3 {NF : Nat} {n6 : Nat} {l4_6 : Int32} {v6 : Nat → Int32} {f6 : Nat → Nat → Int32} (h0 : ¬ (1600 ≤ l4_6)) (h1 : gsX_X6_joins_1 NF 1 (v6 2) v6 f6 = 0) : gsX_X6_expression_26_L6 NF (n6 + 1) l4_6 v6 f6 = (1, v6, f6) := by
  simp only [gsX_X6_expression_26_L6, if_neg h0, h1, ite11, ite01, if_true, if_false]
