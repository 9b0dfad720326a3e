def gsX_X6_negation_3 (NF : Nat) (v : Nat → Int32) (f : Nat → Nat → Int32) : Int32 × (Nat → Int32) × (Nat → Nat → Int32) :=
  match gsX_X9_advance_1 NF v f with
  | (v2, f3) =>
    match stk NF (gsX_X6_expression_39 NF v2 f3) with
    | (r4, v6, f7) =>
      if r4 = 1 then
        match gsX_X4_add_1 NF 115 0 v6 f7 with
        | (v10, f11) =>
          (1, v10, f11)
      else
        (0, v6, f7)
theorem gsX_X6_negation_3_q0 {NF : Nat} {v : Nat → Int32} {f : Nat → Nat → Int32} {v2 : Nat → Int32} {f3 : Nat → Nat → Int32} {v6 : Nat → Int32} {f7 : Nat → Nat → Int32} {v10 : Nat → Int32} {f11 : Nat → Nat → Int32} (h0 : gsX_X9_advance_1 NF v f = (v2, f3)) (h1 : gsX_X6_expression_39 NF v2 f3 = (1, v6, f7)) (h3 : gsX_X4_add_1 NF 115 0 v6 f7 = (v10, f11)) : gsX_X6_negation_3 NF v f = (1, v10, f11) := by
  simp only [gsX_X6_negation_3, stk_eq, h0, h1, h3, ite11, ite01, if_true, if_false]
theorem gsX_X6_negation_3_q1 {NF : Nat} {v : Nat → Int32} {f : Nat → Nat → Int32} {v2 : Nat → Int32} {f3 : Nat → Nat → Int32} {v6 : Nat → Int32} {f7 : Nat → Nat → Int32} (h0 : gsX_X9_advance_1 NF v f = (v2, f3)) (h1 : gsX_X6_expression_39 NF v2 f3 = (0, v6, f7)) : gsX_X6_negation_3 NF v f = (0, v6, f7) := by
  simp only [gsX_X6_negation_3, stk_eq, h0, h1, ite11, ite01, if_true, if_false]
def gsX_X6_expression_33_L7 (NF : Nat) : Nat → (Int32) → (Nat → Int32) → (Nat → Nat → Int32) → Int32 × (Nat → Int32) × (Nat → Nat → Int32)
  | 0, _, _, _ => (0, (fun _ => 0), (fun _ _ => 0))
  | n7 + 1, l4_7, v7, f7 =>
    if 1 ≤ l4_7 then
      (1, v7, f7)
    else
      if gsX_X6_joins_1 NF 2 (v7 2) v7 f7 = 1 then
        match gsX_X9_advance_1 NF v7 f7 with
        | (v13, f14) =>
          match gsX_X6_expression_34 NF v13 f14 with
          | (r15, v17, f18) =>
            if r15 = 1 then
              match gsX_X4_add_1 NF (v7 2) 0 v17 f18 with
              | (v21, f22) =>
                let t23 : Int32 := l4_7 + 1
                gsX_X6_expression_33_L7 NF n7 t23 v21 f22
            else
              (0, v17, f18)
      else
        (1, v7, f7)
def gsX_X6_expression_33 (NF : Nat) (v : Nat → Int32) (f : Nat → Nat → Int32) : Int32 × (Nat → Int32) × (Nat → Nat → Int32) :=
  if (v 2) = 115 then
    match gsX_X6_negation_3 NF v f with
    | (r26, v28, f29) =>
      if r26 = 1 then
        (1, v28, f29)
      else
        (0, v28, f29)
  else
    match gsX_X6_expression_34 NF v f with
    | (r2, v4, f5) =>
      if r2 = 1 then
        gsX_X6_expression_33_L7 NF (4294967296 + NF) 0 v4 f5
      else
        (0, v4, f5)
theorem gsX_X6_expression_33_q4 {NF : Nat} {v : Nat → Int32} {f : Nat → Nat → Int32} {v4 : Nat → Int32} {f5 : Nat → Nat → Int32} (h0 : ¬ ((v 2) = 115)) (h1 : gsX_X6_expression_34 NF v f = (1, v4, f5)) : gsX_X6_expression_33 NF v f = gsX_X6_expression_33_L7 NF (4294967296 + NF) 0 v4 f5 := by
  simp only [gsX_X6_expression_33, if_neg h0, h1, ite11, ite01, if_true, if_false]
theorem gsX_X6_expression_33_q5 {NF : Nat} {v : Nat → Int32} {f : Nat → Nat → Int32} {v4 : Nat → Int32} {f5 : Nat → Nat → Int32} (h0 : ¬ ((v 2) = 115)) (h1 : gsX_X6_expression_34 NF v f = (0, v4, f5)) : gsX_X6_expression_33 NF v f = (0, v4, f5) := by
  simp only [gsX_X6_expression_33, if_neg h0, h1, ite11, ite01, if_true, if_false]
theorem gsX_X6_expression_33_q6 {NF : Nat} {v : Nat → Int32} {f : Nat → Nat → Int32} {v28 : Nat → Int32} {f29 : Nat → Nat → Int32} (h0 : ((v 2) = 115)) (h1 : gsX_X6_negation_3 NF v f = (1, v28, f29)) : gsX_X6_expression_33 NF v f = (1, v28, f29) := by
  simp only [gsX_X6_expression_33, if_pos h0, h1, ite11, ite01, if_true, if_false]
theorem gsX_X6_expression_33_q7 {NF : Nat} {v : Nat → Int32} {f : Nat → Nat → Int32} {v28 : Nat → Int32} {f29 : Nat → Nat → Int32} (h0 : ((v 2) = 115)) (h1 : gsX_X6_negation_3 NF v f = (0, v28, f29)) : gsX_X6_expression_33 NF v f = (0, v28, f29) := by
  simp only [gsX_X6_expression_33, if_pos h0, h1, ite11, ite01, if_true, if_false]
theorem gsX_X6_expression_33_q0 {NF : Nat} {n7 : Nat} {l4_7 : Int32} {v7 : Nat → Int32} {f7 : Nat → Nat → Int32} (h0 : (1 ≤ l4_7)) : gsX_X6_expression_33_L7 NF (n7 + 1) l4_7 v7 f7 = (1, v7, f7) := by
  simp only [gsX_X6_expression_33_L7, if_pos h0]
theorem gsX_X6_expression_33_q1 {NF : Nat} {n7 : Nat} {l4_7 : Int32} {v7 : Nat → Int32} {f7 : Nat → Nat → Int32} {v13 : Nat → Int32} {f14 : Nat → Nat → Int32} {v17 : Nat → Int32} {f18 : Nat → Nat → Int32} {v21 : Nat → Int32} {f22 : Nat → Nat → Int32} {t23 : Int32} (h0 : ¬ (1 ≤ l4_7)) (h1 : gsX_X6_joins_1 NF 2 (v7 2) v7 f7 = 1) (h2 : gsX_X9_advance_1 NF v7 f7 = (v13, f14)) (h3 : gsX_X6_expression_34 NF v13 f14 = (1, v17, f18)) (h5 : gsX_X4_add_1 NF (v7 2) 0 v17 f18 = (v21, f22)) (h6 : t23 = l4_7 + 1) : gsX_X6_expression_33_L7 NF (n7 + 1) l4_7 v7 f7 = gsX_X6_expression_33_L7 NF n7 t23 v21 f22 := by
  subst h6
  simp only [gsX_X6_expression_33_L7, if_neg h0, h1, h2, h3, h5, ite11, ite01, if_true, if_false]
theorem gsX_X6_expression_33_q2 {NF : Nat} {n7 : Nat} {l4_7 : Int32} {v7 : Nat → Int32} {f7 : Nat → Nat → Int32} {v13 : Nat → Int32} {f14 : Nat → Nat → Int32} {v17 : Nat → Int32} {f18 : Nat → Nat → Int32} (h0 : ¬ (1 ≤ l4_7)) (h1 : gsX_X6_joins_1 NF 2 (v7 2) v7 f7 = 1) (h2 : gsX_X9_advance_1 NF v7 f7 = (v13, f14)) (h3 : gsX_X6_expression_34 NF v13 f14 = (0, v17, f18)) : gsX_X6_expression_33_L7 NF (n7 + 1) l4_7 v7 f7 = (0, v17, f18) := by
  simp only [gsX_X6_expression_33_L7, if_neg h0, h1, h2, h3, ite11, ite01, if_true, if_false]
theorem gsX_X6_expression_33_q3 {NF : Nat} {n7 : Nat} {l4_7 : Int32} {v7 : Nat → Int32} {f7 : Nat → Nat → Int32} (h0 : ¬ (1 ≤ l4_7)) (h1 : gsX_X6_joins_1 NF 2 (v7 2) v7 f7 = 0) : gsX_X6_expression_33_L7 NF (n7 + 1) l4_7 v7 f7 = (1, v7, f7) := by
  simp only [gsX_X6_expression_33_L7, if_neg h0, h1, ite11, ite01, if_true, if_false]
def gsX_X6_expression_32_L6 (NF : Nat) : Nat → (Int32) → (Nat → Int32) → (Nat → Nat → Int32) → Int32 × (Nat → Int32) × (Nat → Nat → Int32)
  | 0, _, _, _ => (0, (fun _ => 0), (fun _ _ => 0))
  | n6 + 1, l4_6, v6, f6 =>
    if 1600 ≤ l4_6 then
      (1, v6, f6)
    else
      if gsX_X6_joins_1 NF 1 (v6 2) v6 f6 = 1 then
        match gsX_X9_advance_1 NF v6 f6 with
        | (v12, f13) =>
          match gsX_X6_expression_33 NF v12 f13 with
          | (r14, v16, f17) =>
            if r14 = 1 then
              match gsX_X4_add_1 NF (v6 2) 0 v16 f17 with
              | (v20, f21) =>
                let t22 : Int32 := l4_6 + 1
                gsX_X6_expression_32_L6 NF n6 t22 v20 f21
            else
              (0, v16, f17)
      else
        (1, v6, f6)
def gsX_X6_expression_32 (NF : Nat) (v : Nat → Int32) (f : Nat → Nat → Int32) : Int32 × (Nat → Int32) × (Nat → Nat → Int32) :=
  match gsX_X6_expression_33 NF v f with
  | (r1, v3, f4) =>
    if r1 = 1 then
      gsX_X6_expression_32_L6 NF (4294967296 + NF) 0 v3 f4
    else
      (0, v3, f4)
theorem gsX_X6_expression_32_q4 {NF : Nat} {v : Nat → Int32} {f : Nat → Nat → Int32} {v3 : Nat → Int32} {f4 : Nat → Nat → Int32} (h0 : gsX_X6_expression_33 NF v f = (1, v3, f4)) : gsX_X6_expression_32 NF v f = gsX_X6_expression_32_L6 NF (4294967296 + NF) 0 v3 f4 := by
  simp only [gsX_X6_expression_32, h0, ite11, ite01, if_true, if_false]
theorem gsX_X6_expression_32_q5 {NF : Nat} {v : Nat → Int32} {f : Nat → Nat → Int32} {v3 : Nat → Int32} {f4 : Nat → Nat → Int32} (h0 : gsX_X6_expression_33 NF v f = (0, v3, f4)) : gsX_X6_expression_32 NF v f = (0, v3, f4) := by
  simp only [gsX_X6_expression_32, h0, ite11, ite01, if_true, if_false]
theorem gsX_X6_expression_32_q0 {NF : Nat} {n6 : Nat} {l4_6 : Int32} {v6 : Nat → Int32} {f6 : Nat → Nat → Int32} (h0 : (1600 ≤ l4_6)) : gsX_X6_expression_32_L6 NF (n6 + 1) l4_6 v6 f6 = (1, v6, f6) := by
  simp only [gsX_X6_expression_32_L6, if_pos h0]
theorem gsX_X6_expression_32_q1 {NF : Nat} {n6 : Nat} {l4_6 : Int32} {v6 : Nat → Int32} {f6 : Nat → Nat → Int32} {v12 : Nat → Int32} {f13 : Nat → Nat → Int32} {v16 : Nat → Int32} {f17 : Nat → Nat → Int32} {v20 : Nat → Int32} {f21 : Nat → Nat → Int32} {t22 : Int32} (h0 : ¬ (1600 ≤ l4_6)) (h1 : gsX_X6_joins_1 NF 1 (v6 2) v6 f6 = 1) (h2 : gsX_X9_advance_1 NF v6 f6 = (v12, f13)) (h3 : gsX_X6_expression_33 NF v12 f13 = (1, v16, f17)) (h5 : gsX_X4_add_1 NF (v6 2) 0 v16 f17 = (v20, f21)) (h6 : t22 = l4_6 + 1) : gsX_X6_expression_32_L6 NF (n6 + 1) l4_6 v6 f6 = gsX_X6_expression_32_L6 NF n6 t22 v20 f21 := by
  subst h6
  simp only [gsX_X6_expression_32_L6, if_neg h0, h1, h2, h3, h5, ite11, ite01, if_true, if_false]
theorem gsX_X6_expression_32_q2 {NF : Nat} {n6 : Nat} {l4_6 : Int32} {v6 : Nat → Int32} {f6 : Nat → Nat → Int32} {v12 : Nat → Int32} {f13 : Nat → Nat → Int32} {v16 : Nat → Int32} {f17 : Nat → Nat → Int32} (h0 : ¬ (1600 ≤ l4_6)) (h1 : gsX_X6_joins_1 NF 1 (v6 2) v6 f6 = 1) (h2 : gsX_X9_advance_1 NF v6 f6 = (v12, f13)) (h3 : gsX_X6_expression_33 NF v12 f13 = (0, v16, f17)) : gsX_X6_expression_32_L6 NF (n6 + 1) l4_6 v6 f6 = (0, v16, f17) := by
  simp only [gsX_X6_expression_32_L6, if_neg h0, h1, h2, h3, ite11, ite01, if_true, if_false]
theorem gsX_X6_expression_32_q3 {NF : Nat} {n6 : Nat} {l4_6 : Int32} {v6 : Nat → Int32} {f6 : Nat → Nat → Int32} (h0 : ¬ (1600 ≤ l4_6)) (h1 : gsX_X6_joins_1 NF 1 (v6 2) v6 f6 = 0) : gsX_X6_expression_32_L6 NF (n6 + 1) l4_6 v6 f6 = (1, v6, f6) := by
  simp only [gsX_X6_expression_32_L6, if_neg h0, h1, ite11, ite01, if_true, if_false]
def gsX_X6_expression_31_L6 (NF : Nat) : Nat → (Int32) → (Nat → Int32) → (Nat → Nat → Int32) → Int32 × (Nat → Int32) × (Nat → Nat → Int32)
  | 0, _, _, _ => (0, (fun _ => 0), (fun _ _ => 0))
  | n6 + 1, l4_6, v6, f6 =>
    if 1600 ≤ l4_6 then
      (1, v6, f6)
    else
      if gsX_X6_joins_1 NF 0 (v6 2) v6 f6 = 1 then
        match gsX_X9_advance_1 NF v6 f6 with
        | (v12, f13) =>
          match gsX_X6_expression_32 NF v12 f13 with
          | (r14, v16, f17) =>
            if r14 = 1 then
              match gsX_X4_add_1 NF (v6 2) 0 v16 f17 with
              | (v20, f21) =>
                let t22 : Int32 := l4_6 + 1
                gsX_X6_expression_31_L6 NF n6 t22 v20 f21
            else
              (0, v16, f17)
      else
        (1, v6, f6)
def gsX_X6_expression_31 (NF : Nat) (v : Nat → Int32) (f : Nat → Nat → Int32) : Int32 × (Nat → Int32) × (Nat → Nat → Int32) :=
  match gsX_X6_expression_32 NF v f with
  | (r1, v3, f4) =>
    if r1 = 1 then
      gsX_X6_expression_31_L6 NF (4294967296 + NF) 0 v3 f4
    else
      (0, v3, f4)
theorem gsX_X6_expression_31_q4 {NF : Nat} {v : Nat → Int32} {f : Nat → Nat → Int32} {v3 : Nat → Int32} {f4 : Nat → Nat → Int32} (h0 : gsX_X6_expression_32 NF v f = (1, v3, f4)) : gsX_X6_expression_31 NF v f = gsX_X6_expression_31_L6 NF (4294967296 + NF) 0 v3 f4 := by
  simp only [gsX_X6_expression_31, h0, ite11, ite01, if_true, if_false]
theorem gsX_X6_expression_31_q5 {NF : Nat} {v : Nat → Int32} {f : Nat → Nat → Int32} {v3 : Nat → Int32} {f4 : Nat → Nat → Int32} (h0 : gsX_X6_expression_32 NF v f = (0, v3, f4)) : gsX_X6_expression_31 NF v f = (0, v3, f4) := by
  simp only [gsX_X6_expression_31, h0, ite11, ite01, if_true, if_false]
theorem gsX_X6_expression_31_q0 {NF : Nat} {n6 : Nat} {l4_6 : Int32} {v6 : Nat → Int32} {f6 : Nat → Nat → Int32} (h0 : (1600 ≤ l4_6)) : gsX_X6_expression_31_L6 NF (n6 + 1) l4_6 v6 f6 = (1, v6, f6) := by
  simp only [gsX_X6_expression_31_L6, if_pos h0]
theorem gsX_X6_expression_31_q1 {NF : Nat} {n6 : Nat} {l4_6 : Int32} {v6 : Nat → Int32} {f6 : Nat → Nat → Int32} {v12 : Nat → Int32} {f13 : Nat → Nat → Int32} {v16 : Nat → Int32} {f17 : Nat → Nat → Int32} {v20 : Nat → Int32} {f21 : Nat → Nat → Int32} {t22 : Int32} (h0 : ¬ (1600 ≤ l4_6)) (h1 : gsX_X6_joins_1 NF 0 (v6 2) v6 f6 = 1) (h2 : gsX_X9_advance_1 NF v6 f6 = (v12, f13)) (h3 : gsX_X6_expression_32 NF v12 f13 = (1, v16, f17)) (h5 : gsX_X4_add_1 NF (v6 2) 0 v16 f17 = (v20, f21)) (h6 : t22 = l4_6 + 1) : gsX_X6_expression_31_L6 NF (n6 + 1) l4_6 v6 f6 = gsX_X6_expression_31_L6 NF n6 t22 v20 f21 := by
  subst h6
  simp only [gsX_X6_expression_31_L6, if_neg h0, h1, h2, h3, h5, ite11, ite01, if_true, if_false]
theorem gsX_X6_expression_31_q2 {NF : Nat} {n6 : Nat} {l4_6 : Int32} {v6 : Nat → Int32} {f6 : Nat → Nat → Int32} {v12 : Nat → Int32} {f13 : Nat → Nat → Int32} {v16 : Nat → Int32} {f17 : Nat → Nat → Int32} (h0 : ¬ (1600 ≤ l4_6)) (h1 : gsX_X6_joins_1 NF 0 (v6 2) v6 f6 = 1) (h2 : gsX_X9_advance_1 NF v6 f6 = (v12, f13)) (h3 : gsX_X6_expression_32 NF v12 f13 = (0, v16, f17)) : gsX_X6_expression_31_L6 NF (n6 + 1) l4_6 v6 f6 = (0, v16, f17) := by
  simp only [gsX_X6_expression_31_L6, if_neg h0, h1, h2, h3, ite11, ite01, if_true, if_false]
theorem gsX_X6_expression_31_q3 {NF : Nat} {n6 : Nat} {l4_6 : Int32} {v6 : Nat → Int32} {f6 : Nat → Nat → Int32} (h0 : ¬ (1600 ≤ l4_6)) (h1 : gsX_X6_joins_1 NF 0 (v6 2) v6 f6 = 0) : gsX_X6_expression_31_L6 NF (n6 + 1) l4_6 v6 f6 = (1, v6, f6) := by
  simp only [gsX_X6_expression_31_L6, if_neg h0, h1, ite11, ite01, if_true, if_false]
def gsX_X6_unit_5 (NF : Nat) (v : Nat → Int32) (f : Nat → Nat → Int32) : Int32 × (Nat → Int32) × (Nat → Nat → Int32) :=
  if (v 2) = 2 then
    if (v 17) < 30 then
      match gsX_X4_add_1 NF (v 2) (v 5) v f with
      | (v4, f5) =>
        let t6 : Int32 := (v4 17) + 1
        match gsX_X9_advance_1 NF (upd v4 17 t6) f5 with
        | (v8, f9) =>
          (1, v8, f9)
    else
      match gsX_X6_refuse_1 NF v f with
      | (r10, v12, f13) =>
        if r10 = 1 then
          (1, v12, f13)
        else
          (0, v12, f13)
  else
    if (v 2) < 116 then
      if (v 2) = 40 then
        if (v 17) < 30 then
          let t23 : Int32 := (v 17) + 1
          match gsX_X9_advance_1 NF (upd v 17 t23) f with
          | (v26, f27) =>
            match stk NF (gsX_X6_expression_31 NF v26 f27) with
            | (r28, v30, f31) =>
              if r28 = 1 then
                match gsX_X6_taken_1 NF 41 v30 f31 with
                | (r33, v35, f36) =>
                  if r33 = 1 then
                    (1, v35, f36)
                  else
                    (0, v35, f36)
              else
                (0, v30, f31)
        else
          match gsX_X6_refuse_1 NF v f with
          | (r38, v40, f41) =>
            if r38 = 1 then
              (1, v40, f41)
            else
              (0, v40, f41)
      else
        match gsX_X6_refuse_1 NF v f with
        | (r17, v19, f20) =>
          if r17 = 1 then
            (1, v19, f20)
          else
            (0, v19, f20)
    else
      if 121 < (v 2) then
        if (v 2) = 40 then
          if (v 17) < 30 then
            let t51 : Int32 := (v 17) + 1
            match gsX_X9_advance_1 NF (upd v 17 t51) f with
            | (v54, f55) =>
              match stk NF (gsX_X6_expression_31 NF v54 f55) with
              | (r56, v58, f59) =>
                if r56 = 1 then
                  match gsX_X6_taken_1 NF 41 v58 f59 with
                  | (r61, v63, f64) =>
                    if r61 = 1 then
                      (1, v63, f64)
                    else
                      (0, v63, f64)
                else
                  (0, v58, f59)
          else
            match gsX_X6_refuse_1 NF v f with
            | (r66, v68, f69) =>
              if r66 = 1 then
                (1, v68, f69)
              else
                (0, v68, f69)
        else
          match gsX_X6_refuse_1 NF v f with
          | (r45, v47, f48) =>
            if r45 = 1 then
              (1, v47, f48)
            else
              (0, v47, f48)
      else
        if (v 17) < 30 then
          match gsX_X4_add_1 NF (v 2) (v 5) v f with
          | (v73, f74) =>
            let t75 : Int32 := (v73 17) + 1
            match gsX_X9_advance_1 NF (upd v73 17 t75) f74 with
            | (v77, f78) =>
              (1, v77, f78)
        else
          match gsX_X6_refuse_1 NF v f with
          | (r79, v81, f82) =>
            if r79 = 1 then
              (1, v81, f82)
            else
              (0, v81, f82)
theorem gsX_X6_unit_5_q0 {NF : Nat} {v : Nat → Int32} {f : Nat → Nat → Int32} {v4 : Nat → Int32} {f5 : Nat → Nat → Int32} {t6 : Int32} {v8 : Nat → Int32} {f9 : Nat → Nat → Int32} (h0 : ((v 2) = 2)) (h1 : ((v 17) < 30)) (h2 : gsX_X4_add_1 NF (v 2) (v 5) v f = (v4, f5)) (h3 : t6 = (v4 17) + 1) (h4 : gsX_X9_advance_1 NF (upd v4 17 t6) f5 = (v8, f9)) : gsX_X6_unit_5 NF v f = (1, v8, f9) := by
  subst h3
  simp only [gsX_X6_unit_5, stk_eq, if_pos h0, if_pos h1, h2, h4]
theorem gsX_X6_unit_5_q1 {NF : Nat} {v : Nat → Int32} {f : Nat → Nat → Int32} {v12 : Nat → Int32} {f13 : Nat → Nat → Int32} (h0 : ((v 2) = 2)) (h1 : ¬ ((v 17) < 30)) (h2 : gsX_X6_refuse_1 NF v f = (1, v12, f13)) : gsX_X6_unit_5 NF v f = (1, v12, f13) := by
  simp only [gsX_X6_unit_5, stk_eq, if_pos h0, if_neg h1, h2, ite11, ite01, if_true, if_false]
theorem gsX_X6_unit_5_q2 {NF : Nat} {v : Nat → Int32} {f : Nat → Nat → Int32} {v12 : Nat → Int32} {f13 : Nat → Nat → Int32} (h0 : ((v 2) = 2)) (h1 : ¬ ((v 17) < 30)) (h2 : gsX_X6_refuse_1 NF v f = (0, v12, f13)) : gsX_X6_unit_5 NF v f = (0, v12, f13) := by
  simp only [gsX_X6_unit_5, stk_eq, if_pos h0, if_neg h1, h2, ite11, ite01, if_true, if_false]
theorem gsX_X6_unit_5_q3 {NF : Nat} {v : Nat → Int32} {f : Nat → Nat → Int32} {v19 : Nat → Int32} {f20 : Nat → Nat → Int32} (h0 : ¬ ((v 2) = 2)) (h1 : ((v 2) < 116)) (h2 : ¬ ((v 2) = 40)) (h3 : gsX_X6_refuse_1 NF v f = (1, v19, f20)) : gsX_X6_unit_5 NF v f = (1, v19, f20) := by
  simp only [gsX_X6_unit_5, stk_eq, if_neg h0, if_pos h1, if_neg h2, h3, ite11, ite01, if_true, if_false]
theorem gsX_X6_unit_5_q4 {NF : Nat} {v : Nat → Int32} {f : Nat → Nat → Int32} {v19 : Nat → Int32} {f20 : Nat → Nat → Int32} (h0 : ¬ ((v 2) = 2)) (h1 : ((v 2) < 116)) (h2 : ¬ ((v 2) = 40)) (h3 : gsX_X6_refuse_1 NF v f = (0, v19, f20)) : gsX_X6_unit_5 NF v f = (0, v19, f20) := by
  simp only [gsX_X6_unit_5, stk_eq, if_neg h0, if_pos h1, if_neg h2, h3, ite11, ite01, if_true, if_false]
theorem gsX_X6_unit_5_q5 {NF : Nat} {v : Nat → Int32} {f : Nat → Nat → Int32} {t23 : Int32} {v26 : Nat → Int32} {f27 : Nat → Nat → Int32} {v30 : Nat → Int32} {f31 : Nat → Nat → Int32} {v35 : Nat → Int32} {f36 : Nat → Nat → Int32} (h0 : ¬ ((v 2) = 2)) (h1 : ((v 2) < 116)) (h2 : ((v 2) = 40)) (h3 : ((v 17) < 30)) (h4 : t23 = (v 17) + 1) (h5 : gsX_X9_advance_1 NF (upd v 17 t23) f = (v26, f27)) (h6 : gsX_X6_expression_31 NF v26 f27 = (1, v30, f31)) (h8 : gsX_X6_taken_1 NF 41 v30 f31 = (1, v35, f36)) : gsX_X6_unit_5 NF v f = (1, v35, f36) := by
  subst h4
  simp only [gsX_X6_unit_5, stk_eq, if_neg h0, if_pos h1, if_pos h2, if_pos h3, h5, h6, h8, ite11, ite01, if_true, if_false]
theorem gsX_X6_unit_5_q6 {NF : Nat} {v : Nat → Int32} {f : Nat → Nat → Int32} {t23 : Int32} {v26 : Nat → Int32} {f27 : Nat → Nat → Int32} {v30 : Nat → Int32} {f31 : Nat → Nat → Int32} {v35 : Nat → Int32} {f36 : Nat → Nat → Int32} (h0 : ¬ ((v 2) = 2)) (h1 : ((v 2) < 116)) (h2 : ((v 2) = 40)) (h3 : ((v 17) < 30)) (h4 : t23 = (v 17) + 1) (h5 : gsX_X9_advance_1 NF (upd v 17 t23) f = (v26, f27)) (h6 : gsX_X6_expression_31 NF v26 f27 = (1, v30, f31)) (h8 : gsX_X6_taken_1 NF 41 v30 f31 = (0, v35, f36)) : gsX_X6_unit_5 NF v f = (0, v35, f36) := by
  subst h4
  simp only [gsX_X6_unit_5, stk_eq, if_neg h0, if_pos h1, if_pos h2, if_pos h3, h5, h6, h8, ite11, ite01, if_true, if_false]
theorem gsX_X6_unit_5_q7 {NF : Nat} {v : Nat → Int32} {f : Nat → Nat → Int32} {t23 : Int32} {v26 : Nat → Int32} {f27 : Nat → Nat → Int32} {v30 : Nat → Int32} {f31 : Nat → Nat → Int32} (h0 : ¬ ((v 2) = 2)) (h1 : ((v 2) < 116)) (h2 : ((v 2) = 40)) (h3 : ((v 17) < 30)) (h4 : t23 = (v 17) + 1) (h5 : gsX_X9_advance_1 NF (upd v 17 t23) f = (v26, f27)) (h6 : gsX_X6_expression_31 NF v26 f27 = (0, v30, f31)) : gsX_X6_unit_5 NF v f = (0, v30, f31) := by
  subst h4
  simp only [gsX_X6_unit_5, stk_eq, if_neg h0, if_pos h1, if_pos h2, if_pos h3, h5, h6, ite11, ite01, if_true, if_false]
theorem gsX_X6_unit_5_q8 {NF : Nat} {v : Nat → Int32} {f : Nat → Nat → Int32} {v40 : Nat → Int32} {f41 : Nat → Nat → Int32} (h0 : ¬ ((v 2) = 2)) (h1 : ((v 2) < 116)) (h2 : ((v 2) = 40)) (h3 : ¬ ((v 17) < 30)) (h4 : gsX_X6_refuse_1 NF v f = (1, v40, f41)) : gsX_X6_unit_5 NF v f = (1, v40, f41) := by
  simp only [gsX_X6_unit_5, stk_eq, if_neg h0, if_pos h1, if_pos h2, if_neg h3, h4, ite11, ite01, if_true, if_false]
theorem gsX_X6_unit_5_q9 {NF : Nat} {v : Nat → Int32} {f : Nat → Nat → Int32} {v40 : Nat → Int32} {f41 : Nat → Nat → Int32} (h0 : ¬ ((v 2) = 2)) (h1 : ((v 2) < 116)) (h2 : ((v 2) = 40)) (h3 : ¬ ((v 17) < 30)) (h4 : gsX_X6_refuse_1 NF v f = (0, v40, f41)) : gsX_X6_unit_5 NF v f = (0, v40, f41) := by
  simp only [gsX_X6_unit_5, stk_eq, if_neg h0, if_pos h1, if_pos h2, if_neg h3, h4, ite11, ite01, if_true, if_false]
theorem gsX_X6_unit_5_q10 {NF : Nat} {v : Nat → Int32} {f : Nat → Nat → Int32} {v47 : Nat → Int32} {f48 : Nat → Nat → Int32} (h0 : ¬ ((v 2) = 2)) (h1 : ¬ ((v 2) < 116)) (h2 : (121 < (v 2))) (h3 : ¬ ((v 2) = 40)) (h4 : gsX_X6_refuse_1 NF v f = (1, v47, f48)) : gsX_X6_unit_5 NF v f = (1, v47, f48) := by
  simp only [gsX_X6_unit_5, stk_eq, if_neg h0, if_neg h1, if_pos h2, if_neg h3, h4, ite11, ite01, if_true, if_false]
theorem gsX_X6_unit_5_q11 {NF : Nat} {v : Nat → Int32} {f : Nat → Nat → Int32} {v47 : Nat → Int32} {f48 : Nat → Nat → Int32} (h0 : ¬ ((v 2) = 2)) (h1 : ¬ ((v 2) < 116)) (h2 : (121 < (v 2))) (h3 : ¬ ((v 2) = 40)) (h4 : gsX_X6_refuse_1 NF v f = (0, v47, f48)) : gsX_X6_unit_5 NF v f = (0, v47, f48) := by
  simp only [gsX_X6_unit_5, stk_eq, if_neg h0, if_neg h1, if_pos h2, if_neg h3, h4, ite11, ite01, if_true, if_false]
theorem gsX_X6_unit_5_q12 {NF : Nat} {v : Nat → Int32} {f : Nat → Nat → Int32} {t51 : Int32} {v54 : Nat → Int32} {f55 : Nat → Nat → Int32} {v58 : Nat → Int32} {f59 : Nat → Nat → Int32} {v63 : Nat → Int32} {f64 : Nat → Nat → Int32} (h0 : ¬ ((v 2) = 2)) (h1 : ¬ ((v 2) < 116)) (h2 : (121 < (v 2))) (h3 : ((v 2) = 40)) (h4 : ((v 17) < 30)) (h5 : t51 = (v 17) + 1) (h6 : gsX_X9_advance_1 NF (upd v 17 t51) f = (v54, f55)) (h7 : gsX_X6_expression_31 NF v54 f55 = (1, v58, f59)) (h9 : gsX_X6_taken_1 NF 41 v58 f59 = (1, v63, f64)) : gsX_X6_unit_5 NF v f = (1, v63, f64) := by
  subst h5
  simp only [gsX_X6_unit_5, stk_eq, if_neg h0, if_neg h1, if_pos h2, if_pos h3, if_pos h4, h6, h7, h9, ite11, ite01, if_true, if_false]
theorem gsX_X6_unit_5_q13 {NF : Nat} {v : Nat → Int32} {f : Nat → Nat → Int32} {t51 : Int32} {v54 : Nat → Int32} {f55 : Nat → Nat → Int32} {v58 : Nat → Int32} {f59 : Nat → Nat → Int32} {v63 : Nat → Int32} {f64 : Nat → Nat → Int32} (h0 : ¬ ((v 2) = 2)) (h1 : ¬ ((v 2) < 116)) (h2 : (121 < (v 2))) (h3 : ((v 2) = 40)) (h4 : ((v 17) < 30)) (h5 : t51 = (v 17) + 1) (h6 : gsX_X9_advance_1 NF (upd v 17 t51) f = (v54, f55)) (h7 : gsX_X6_expression_31 NF v54 f55 = (1, v58, f59)) (h9 : gsX_X6_taken_1 NF 41 v58 f59 = (0, v63, f64)) : gsX_X6_unit_5 NF v f = (0, v63, f64) := by
  subst h5
  simp only [gsX_X6_unit_5, stk_eq, if_neg h0, if_neg h1, if_pos h2, if_pos h3, if_pos h4, h6, h7, h9, ite11, ite01, if_true, if_false]
theorem gsX_X6_unit_5_q14 {NF : Nat} {v : Nat → Int32} {f : Nat → Nat → Int32} {t51 : Int32} {v54 : Nat → Int32} {f55 : Nat → Nat → Int32} {v58 : Nat → Int32} {f59 : Nat → Nat → Int32} (h0 : ¬ ((v 2) = 2)) (h1 : ¬ ((v 2) < 116)) (h2 : (121 < (v 2))) (h3 : ((v 2) = 40)) (h4 : ((v 17) < 30)) (h5 : t51 = (v 17) + 1) (h6 : gsX_X9_advance_1 NF (upd v 17 t51) f = (v54, f55)) (h7 : gsX_X6_expression_31 NF v54 f55 = (0, v58, f59)) : gsX_X6_unit_5 NF v f = (0, v58, f59) := by
  subst h5
  simp only [gsX_X6_unit_5, stk_eq, if_neg h0, if_neg h1, if_pos h2, if_pos h3, if_pos h4, h6, h7, ite11, ite01, if_true, if_false]
theorem gsX_X6_unit_5_q15 {NF : Nat} {v : Nat → Int32} {f : Nat → Nat → Int32} {v68 : Nat → Int32} {f69 : Nat → Nat → Int32} (h0 : ¬ ((v 2) = 2)) (h1 : ¬ ((v 2) < 116)) (h2 : (121 < (v 2))) (h3 : ((v 2) = 40)) (h4 : ¬ ((v 17) < 30)) (h5 : gsX_X6_refuse_1 NF v f = (1, v68, f69)) : gsX_X6_unit_5 NF v f = (1, v68, f69) := by
  simp only [gsX_X6_unit_5, stk_eq, if_neg h0, if_neg h1, if_pos h2, if_pos h3, if_neg h4, h5, ite11, ite01, if_true, if_false]
theorem gsX_X6_unit_5_q16 {NF : Nat} {v : Nat → Int32} {f : Nat → Nat → Int32} {v68 : Nat → Int32} {f69 : Nat → Nat → Int32} (h0 : ¬ ((v 2) = 2)) (h1 : ¬ ((v 2) < 116)) (h2 : (121 < (v 2))) (h3 : ((v 2) = 40)) (h4 : ¬ ((v 17) < 30)) (h5 : gsX_X6_refuse_1 NF v f = (0, v68, f69)) : gsX_X6_unit_5 NF v f = (0, v68, f69) := by
  simp only [gsX_X6_unit_5, stk_eq, if_neg h0, if_neg h1, if_pos h2, if_pos h3, if_neg h4, h5, ite11, ite01, if_true, if_false]
theorem gsX_X6_unit_5_q17 {NF : Nat} {v : Nat → Int32} {f : Nat → Nat → Int32} {v73 : Nat → Int32} {f74 : Nat → Nat → Int32} {t75 : Int32} {v77 : Nat → Int32} {f78 : Nat → Nat → Int32} (h0 : ¬ ((v 2) = 2)) (h1 : ¬ ((v 2) < 116)) (h2 : ¬ (121 < (v 2))) (h3 : ((v 17) < 30)) (h4 : gsX_X4_add_1 NF (v 2) (v 5) v f = (v73, f74)) (h5 : t75 = (v73 17) + 1) (h6 : gsX_X9_advance_1 NF (upd v73 17 t75) f74 = (v77, f78)) : gsX_X6_unit_5 NF v f = (1, v77, f78) := by
  subst h5
  simp only [gsX_X6_unit_5, stk_eq, if_neg h0, if_neg h1, if_neg h2, if_pos h3, h4, h6]
theorem gsX_X6_unit_5_q18 {NF : Nat} {v : Nat → Int32} {f : Nat → Nat → Int32} {v81 : Nat → Int32} {f82 : Nat → Nat → Int32} (h0 : ¬ ((v 2) = 2)) (h1 : ¬ ((v 2) < 116)) (h2 : ¬ (121 < (v 2))) (h3 : ¬ ((v 17) < 30)) (h4 : gsX_X6_refuse_1 NF v f = (1, v81, f82)) : gsX_X6_unit_5 NF v f = (1, v81, f82) := by
  simp only [gsX_X6_unit_5, stk_eq, if_neg h0, if_neg h1, if_neg h2, if_neg h3, h4, ite11, ite01, if_true, if_false]
theorem gsX_X6_unit_5_q19 {NF : Nat} {v : Nat → Int32} {f : Nat → Nat → Int32} {v81 : Nat → Int32} {f82 : Nat → Nat → Int32} (h0 : ¬ ((v 2) = 2)) (h1 : ¬ ((v 2) < 116)) (h2 : ¬ (121 < (v 2))) (h3 : ¬ ((v 17) < 30)) (h4 : gsX_X6_refuse_1 NF v f = (0, v81, f82)) : gsX_X6_unit_5 NF v f = (0, v81, f82) := by
  simp only [gsX_X6_unit_5, stk_eq, if_neg h0, if_neg h1, if_neg h2, if_neg h3, h4, ite11, ite01, if_true, if_false]
def gsX_X6_expression_30 (NF : Nat) (v : Nat → Int32) (f : Nat → Nat → Int32) : Int32 × (Nat → Int32) × (Nat → Nat → Int32) :=
  match gsX_X6_unit_5 NF v f with
  | (r1, v3, f4) =>
    if r1 = 1 then
      (1, v3, f4)
    else
      (0, v3, f4)
theorem gsX_X6_expression_30_q0 {NF : Nat} {v : Nat → Int32} {f : Nat → Nat → Int32} {v3 : Nat → Int32} {f4 : Nat → Nat → Int32} (h0 : gsX_X6_unit_5 NF v f = (1, v3, f4)) : gsX_X6_expression_30 NF v f = (1, v3, f4) := by
  simp only [gsX_X6_expression_30, h0, ite11, ite01, if_true, if_false]
theorem gsX_X6_expression_30_q1 {NF : Nat} {v : Nat → Int32} {f : Nat → Nat → Int32} {v3 : Nat → Int32} {f4 : Nat → Nat → Int32} (h0 : gsX_X6_unit_5 NF v f = (0, v3, f4)) : gsX_X6_expression_30 NF v f = (0, v3, f4) := by
  simp only [gsX_X6_expression_30, h0, ite11, ite01, if_true, if_false]
def gsX_X6_expression_29_L6 (NF : Nat) : Nat → (Int32) → (Nat → Int32) → (Nat → Nat → Int32) → Int32 × (Nat → Int32) × (Nat → Nat → Int32)
  | 0, _, _, _ => (0, (fun _ => 0), (fun _ _ => 0))
  | n6 + 1, l4_6, v6, f6 =>
    if 1600 ≤ l4_6 then
      (1, v6, f6)
    else
      if gsX_X6_joins_1 NF 4 (v6 2) v6 f6 = 1 then
        match gsX_X9_advance_1 NF v6 f6 with
        | (v12, f13) =>
          match gsX_X6_expression_30 NF v12 f13 with
          | (r14, v16, f17) =>
            if r14 = 1 then
              match gsX_X4_add_1 NF (v6 2) 0 v16 f17 with
              | (v20, f21) =>
                let t22 : Int32 := l4_6 + 1
                gsX_X6_expression_29_L6 NF n6 t22 v20 f21
            else
              (0, v16, f17)
      else
        (1, v6, f6)
def gsX_X6_expression_29 (NF : Nat) (v : Nat → Int32) (f : Nat → Nat → Int32) : Int32 × (Nat → Int32) × (Nat → Nat → Int32) :=
  match gsX_X6_expression_30 NF v f with
  | (r1, v3, f4) =>
    if r1 = 1 then
      gsX_X6_expression_29_L6 NF (4294967296 + NF) 0 v3 f4
    else
      (0, v3, f4)
theorem gsX_X6_expression_29_q4 {NF : Nat} {v : Nat → Int32} {f : Nat → Nat → Int32} {v3 : Nat → Int32} {f4 : Nat → Nat → Int32} (h0 : gsX_X6_expression_30 NF v f = (1, v3, f4)) : gsX_X6_expression_29 NF v f = gsX_X6_expression_29_L6 NF (4294967296 + NF) 0 v3 f4 := by
  simp only [gsX_X6_expression_29, h0, ite11, ite01, if_true, if_false]
theorem gsX_X6_expression_29_q5 {NF : Nat} {v : Nat → Int32} {f : Nat → Nat → Int32} {v3 : Nat → Int32} {f4 : Nat → Nat → Int32} (h0 : gsX_X6_expression_30 NF v f = (0, v3, f4)) : gsX_X6_expression_29 NF v f = (0, v3, f4) := by
  simp only [gsX_X6_expression_29, h0, ite11, ite01, if_true, if_false]
theorem gsX_X6_expression_29_q0 {NF : Nat} {n6 : Nat} {l4_6 : Int32} {v6 : Nat → Int32} {f6 : Nat → Nat → Int32} (h0 : (1600 ≤ l4_6)) : gsX_X6_expression_29_L6 NF (n6 + 1) l4_6 v6 f6 = (1, v6, f6) := by
  simp only [gsX_X6_expression_29_L6, if_pos h0]
theorem gsX_X6_expression_29_q1 {NF : Nat} {n6 : Nat} {l4_6 : Int32} {v6 : Nat → Int32} {f6 : Nat → Nat → Int32} {v12 : Nat → Int32} {f13 : Nat → Nat → Int32} {v16 : Nat → Int32} {f17 : Nat → Nat → Int32} {v20 : Nat → Int32} {f21 : Nat → Nat → Int32} {t22 : Int32} (h0 : ¬ (1600 ≤ l4_6)) (h1 : gsX_X6_joins_1 NF 4 (v6 2) v6 f6 = 1) (h2 : gsX_X9_advance_1 NF v6 f6 = (v12, f13)) (h3 : gsX_X6_expression_30 NF v12 f13 = (1, v16, f17)) (h5 : gsX_X4_add_1 NF (v6 2) 0 v16 f17 = (v20, f21)) (h6 : t22 = l4_6 + 1) : gsX_X6_expression_29_L6 NF (n6 + 1) l4_6 v6 f6 = gsX_X6_expression_29_L6 NF n6 t22 v20 f21 := by
  subst h6
  simp only [gsX_X6_expression_29_L6, if_neg h0, h1, h2, h3, h5, ite11, ite01, if_true, if_false]
theorem gsX_X6_expression_29_q2 {NF : Nat} {n6 : Nat} {l4_6 : Int32} {v6 : Nat → Int32} {f6 : Nat → Nat → Int32} {v12 : Nat → Int32} {f13 : Nat → Nat → Int32} {v16 : Nat → Int32} {f17 : Nat → Nat → Int32} (h0 : ¬ (1600 ≤ l4_6)) (h1 : gsX_X6_joins_1 NF 4 (v6 2) v6 f6 = 1) (h2 : gsX_X9_advance_1 NF v6 f6 = (v12, f13)) (h3 : gsX_X6_expression_30 NF v12 f13 = (0, v16, f17)) : gsX_X6_expression_29_L6 NF (n6 + 1) l4_6 v6 f6 = (0, v16, f17) := by
  simp only [gsX_X6_expression_29_L6, if_neg h0, h1, h2, h3, ite11, ite01, if_true, if_false]
theorem gsX_X6_expression_29_q3 {NF : Nat} {n6 : Nat} {l4_6 : Int32} {v6 : Nat → Int32} {f6 : Nat → Nat → Int32} (h0 : ¬ (1600 ≤ l4_6)) (h1 : gsX_X6_joins_1 NF 4 (v6 2) v6 f6 = 0) : gsX_X6_expression_29_L6 NF (n6 + 1) l4_6 v6 f6 = (1, v6, f6) := by
  simp only [gsX_X6_expression_29_L6, if_neg h0, h1, ite11, ite01, if_true, if_false]
def gsX_X6_expression_28_L6 (NF : Nat) : Nat → (Int32) → (Nat → Int32) → (Nat → Nat → Int32) → Int32 × (Nat → Int32) × (Nat → Nat → Int32)
  | 0, _, _, _ => (0, (fun _ => 0), (fun _ _ => 0))
  | n6 + 1, l4_6, v6, f6 =>
    if 1600 ≤ l4_6 then
      (1, v6, f6)
    else
      if gsX_X6_joins_1 NF 3 (v6 2) v6 f6 = 1 then
        match gsX_X9_advance_1 NF v6 f6 with
        | (v12, f13) =>
          match gsX_X6_expression_29 NF v12 f13 with
          | (r14, v16, f17) =>
            if r14 = 1 then
              match gsX_X4_add_1 NF (v6 2) 0 v16 f17 with
              | (v20, f21) =>
                let t22 : Int32 := l4_6 + 1
                gsX_X6_expression_28_L6 NF n6 t22 v20 f21
            else
              (0, v16, f17)
      else
        (1, v6, f6)
def gsX_X6_expression_28 (NF : Nat) (v : Nat → Int32) (f : Nat → Nat → Int32) : Int32 × (Nat → Int32) × (Nat → Nat → Int32) :=
  match gsX_X6_expression_29 NF v f with
  | (r1, v3, f4) =>
    if r1 = 1 then
      gsX_X6_expression_28_L6 NF (4294967296 + NF) 0 v3 f4
    else
      (0, v3, f4)
theorem gsX_X6_expression_28_q4 {NF : Nat} {v : Nat → Int32} {f : Nat → Nat → Int32} {v3 : Nat → Int32} {f4 : Nat → Nat → Int32} (h0 : gsX_X6_expression_29 NF v f = (1, v3, f4)) : gsX_X6_expression_28 NF v f = gsX_X6_expression_28_L6 NF (4294967296 + NF) 0 v3 f4 := by
  simp only [gsX_X6_expression_28, h0, ite11, ite01, if_true, if_false]
theorem gsX_X6_expression_28_q5 {NF : Nat} {v : Nat → Int32} {f : Nat → Nat → Int32} {v3 : Nat → Int32} {f4 : Nat → Nat → Int32} (h0 : gsX_X6_expression_29 NF v f = (0, v3, f4)) : gsX_X6_expression_28 NF v f = (0, v3, f4) := by
  simp only [gsX_X6_expression_28, h0, ite11, ite01, if_true, if_false]
theorem gsX_X6_expression_28_q0 {NF : Nat} {n6 : Nat} {l4_6 : Int32} {v6 : Nat → Int32} {f6 : Nat → Nat → Int32} (h0 : (1600 ≤ l4_6)) : gsX_X6_expression_28_L6 NF (n6 + 1) l4_6 v6 f6 = (1, v6, f6) := by
  simp only [gsX_X6_expression_28_L6, if_pos h0]
theorem gsX_X6_expression_28_q1 {NF : Nat} {n6 : Nat} {l4_6 : Int32} {v6 : Nat → Int32} {f6 : Nat → Nat → Int32} {v12 : Nat → Int32} {f13 : Nat → Nat → Int32} {v16 : Nat → Int32} {f17 : Nat → Nat → Int32} {v20 : Nat → Int32} {f21 : Nat → Nat → Int32} {t22 : Int32} (h0 : ¬ (1600 ≤ l4_6)) (h1 : gsX_X6_joins_1 NF 3 (v6 2) v6 f6 = 1) (h2 : gsX_X9_advance_1 NF v6 f6 = (v12, f13)) (h3 : gsX_X6_expression_29 NF v12 f13 = (1, v16, f17)) (h5 : gsX_X4_add_1 NF (v6 2) 0 v16 f17 = (v20, f21)) (h6 : t22 = l4_6 + 1) : gsX_X6_expression_28_L6 NF (n6 + 1) l4_6 v6 f6 = gsX_X6_expression_28_L6 NF n6 t22 v20 f21 := by
  subst h6
  simp only [gsX_X6_expression_28_L6, if_neg h0, h1, h2, h3, h5, ite11, ite01, if_true, if_false]
theorem gsX_X6_expression_28_q2 {NF : Nat} {n6 : Nat} {l4_6 : Int32} {v6 : Nat → Int32} {f6 : Nat → Nat → Int32} {v12 : Nat → Int32} {f13 : Nat → Nat → Int32} {v16 : Nat → Int32} {f17 : Nat → Nat → Int32} (h0 : ¬ (1600 ≤ l4_6)) (h1 : gsX_X6_joins_1 NF 3 (v6 2) v6 f6 = 1) (h2 : gsX_X9_advance_1 NF v6 f6 = (v12, f13)) (h3 : gsX_X6_expression_29 NF v12 f13 = (0, v16, f17)) : gsX_X6_expression_28_L6 NF (n6 + 1) l4_6 v6 f6 = (0, v16, f17) := by
  simp only [gsX_X6_expression_28_L6, if_neg h0, h1, h2, h3, ite11, ite01, if_true, if_false]
theorem gsX_X6_expression_28_q3 {NF : Nat} {n6 : Nat} {l4_6 : Int32} {v6 : Nat → Int32} {f6 : Nat → Nat → Int32} (h0 : ¬ (1600 ≤ l4_6)) (h1 : gsX_X6_joins_1 NF 3 (v6 2) v6 f6 = 0) : gsX_X6_expression_28_L6 NF (n6 + 1) l4_6 v6 f6 = (1, v6, f6) := by
  simp only [gsX_X6_expression_28_L6, if_neg h0, h1, ite11, ite01, if_true, if_false]
def gsX_X6_negation_4 (NF : Nat) (v : Nat → Int32) (f : Nat → Nat → Int32) : Int32 × (Nat → Int32) × (Nat → Nat → Int32) :=
  match gsX_X9_advance_1 NF v f with
  | (v2, f3) =>
    match stk NF (gsX_X6_expression_33 NF v2 f3) with
    | (r4, v6, f7) =>
      if r4 = 1 then
        match gsX_X4_add_1 NF 115 0 v6 f7 with
        | (v10, f11) =>
          (1, v10, f11)
      else
        (0, v6, f7)
theorem gsX_X6_negation_4_q0 {NF : Nat} {v : Nat → Int32} {f : Nat → Nat → Int32} {v2 : Nat → Int32} {f3 : Nat → Nat → Int32} {v6 : Nat → Int32} {f7 : Nat → Nat → Int32} {v10 : Nat → Int32} {f11 : Nat → Nat → Int32} (h0 : gsX_X9_advance_1 NF v f = (v2, f3)) (h1 : gsX_X6_expression_33 NF v2 f3 = (1, v6, f7)) (h3 : gsX_X4_add_1 NF 115 0 v6 f7 = (v10, f11)) : gsX_X6_negation_4 NF v f = (1, v10, f11) := by
  simp only [gsX_X6_negation_4, stk_eq, h0, h1, h3, ite11, ite01, if_true, if_false]
theorem gsX_X6_negation_4_q1 {NF : Nat} {v : Nat → Int32} {f : Nat → Nat → Int32} {v2 : Nat → Int32} {f3 : Nat → Nat → Int32} {v6 : Nat → Int32} {f7 : Nat → Nat → Int32} (h0 : gsX_X9_advance_1 NF v f = (v2, f3)) (h1 : gsX_X6_expression_33 NF v2 f3 = (0, v6, f7)) : gsX_X6_negation_4 NF v f = (0, v6, f7) := by
  simp only [gsX_X6_negation_4, stk_eq, h0, h1, ite11, ite01, if_true, if_false]
def gsX_X6_expression_27_L7 (NF : Nat) : Nat → (Int32) → (Nat → Int32) → (Nat → Nat → Int32) → Int32 × (Nat → Int32) × (Nat → Nat → Int32)
  | 0, _, _, _ => (0, (fun _ => 0), (fun _ _ => 0))
  | n7 + 1, l4_7, v7, f7 =>
    if 1 ≤ l4_7 then
      (1, v7, f7)
    else
      if gsX_X6_joins_1 NF 2 (v7 2) v7 f7 = 1 then
        match gsX_X9_advance_1 NF v7 f7 with
        | (v13, f14) =>
          match gsX_X6_expression_28 NF v13 f14 with
          | (r15, v17, f18) =>
            if r15 = 1 then
              match gsX_X4_add_1 NF (v7 2) 0 v17 f18 with
              | (v21, f22) =>
                let t23 : Int32 := l4_7 + 1
                gsX_X6_expression_27_L7 NF n7 t23 v21 f22
            else
              (0, v17, f18)
      else
        (1, v7, f7)
def gsX_X6_expression_27 (NF : Nat) (v : Nat → Int32) (f : Nat → Nat → Int32) : Int32 × (Nat → Int32) × (Nat → Nat → Int32) :=
  if (v 2) = 115 then
    match gsX_X6_negation_4 NF v f with
    | (r26, v28, f29) =>
      if r26 = 1 then
        (1, v28, f29)
      else
        (0, v28, f29)
  else
    match gsX_X6_expression_28 NF v f with
    | (r2, v4, f5) =>
      if r2 = 1 then
        gsX_X6_expression_27_L7 NF (4294967296 + NF) 0 v4 f5
      else
        (0, v4, f5)
theorem gsX_X6_expression_27_q4 {NF : Nat} {v : Nat → Int32} {f : Nat → Nat → Int32} {v4 : Nat → Int32} {f5 : Nat → Nat → Int32} (h0 : ¬ ((v 2) = 115)) (h1 : gsX_X6_expression_28 NF v f = (1, v4, f5)) : gsX_X6_expression_27 NF v f = gsX_X6_expression_27_L7 NF (4294967296 + NF) 0 v4 f5 := by
  simp only [gsX_X6_expression_27, if_neg h0, h1, ite11, ite01, if_true, if_false]
theorem gsX_X6_expression_27_q5 {NF : Nat} {v : Nat → Int32} {f : Nat → Nat → Int32} {v4 : Nat → Int32} {f5 : Nat → Nat → Int32} (h0 : ¬ ((v 2) = 115)) (h1 : gsX_X6_expression_28 NF v f = (0, v4, f5)) : gsX_X6_expression_27 NF v f = (0, v4, f5) := by
  simp only [gsX_X6_expression_27, if_neg h0, h1, ite11, ite01, if_true, if_false]
theorem gsX_X6_expression_27_q6 {NF : Nat} {v : Nat → Int32} {f : Nat → Nat → Int32} {v28 : Nat → Int32} {f29 : Nat → Nat → Int32} (h0 : ((v 2) = 115)) (h1 : gsX_X6_negation_4 NF v f = (1, v28, f29)) : gsX_X6_expression_27 NF v f = (1, v28, f29) := by
  simp only [gsX_X6_expression_27, if_pos h0, h1, ite11, ite01, if_true, if_false]
theorem gsX_X6_expression_27_q7 {NF : Nat} {v : Nat → Int32} {f : Nat → Nat → Int32} {v28 : Nat → Int32} {f29 : Nat → Nat → Int32} (h0 : ((v 2) = 115)) (h1 : gsX_X6_negation_4 NF v f = (0, v28, f29)) : gsX_X6_expression_27 NF v f = (0, v28, f29) := by
  simp only [gsX_X6_expression_27, if_pos h0, h1, ite11, ite01, if_true, if_false]
theorem gsX_X6_expression_27_q0 {NF : Nat} {n7 : Nat} {l4_7 : Int32} {v7 : Nat → Int32} {f7 : Nat → Nat → Int32} (h0 : (1 ≤ l4_7)) : gsX_X6_expression_27_L7 NF (n7 + 1) l4_7 v7 f7 = (1, v7, f7) := by
  simp only [gsX_X6_expression_27_L7, if_pos h0]
theorem gsX_X6_expression_27_q1 {NF : Nat} {n7 : Nat} {l4_7 : Int32} {v7 : Nat → Int32} {f7 : Nat → Nat → Int32} {v13 : Nat → Int32} {f14 : Nat → Nat → Int32} {v17 : Nat → Int32} {f18 : Nat → Nat → Int32} {v21 : Nat → Int32} {f22 : Nat → Nat → Int32} {t23 : Int32} (h0 : ¬ (1 ≤ l4_7)) (h1 : gsX_X6_joins_1 NF 2 (v7 2) v7 f7 = 1) (h2 : gsX_X9_advance_1 NF v7 f7 = (v13, f14)) (h3 : gsX_X6_expression_28 NF v13 f14 = (1, v17, f18)) (h5 : gsX_X4_add_1 NF (v7 2) 0 v17 f18 = (v21, f22)) (h6 : t23 = l4_7 + 1) : gsX_X6_expression_27_L7 NF (n7 + 1) l4_7 v7 f7 = gsX_X6_expression_27_L7 NF n7 t23 v21 f22 := by
  subst h6
  simp only [gsX_X6_expression_27_L7, if_neg h0, h1, h2, h3, h5, ite11, ite01, if_true, if_false]
theorem gsX_X6_expression_27_q2 {NF : Nat} {n7 : Nat} {l4_7 : Int32} {v7 : Nat → Int32} {f7 : Nat → Nat → Int32} {v13 : Nat → Int32} {f14 : Nat → Nat → Int32} {v17 : Nat → Int32} {f18 : Nat → Nat → Int32} (h0 : ¬ (1 ≤ l4_7)) (h1 : gsX_X6_joins_1 NF 2 (v7 2) v7 f7 = 1) (h2 : gsX_X9_advance_1 NF v7 f7 = (v13, f14)) (h3 : gsX_X6_expression_28 NF v13 f14 = (0, v17, f18)) : gsX_X6_expression_27_L7 NF (n7 + 1) l4_7 v7 f7 = (0, v17, f18) := by
  simp only [gsX_X6_expression_27_L7, if_neg h0, h1, h2, h3, ite11, ite01, if_true, if_false]
theorem gsX_X6_expression_27_q3 {NF : Nat} {n7 : Nat} {l4_7 : Int32} {v7 : Nat → Int32} {f7 : Nat → Nat → Int32} (h0 : ¬ (1 ≤ l4_7)) (h1 : gsX_X6_joins_1 NF 2 (v7 2) v7 f7 = 0) : gsX_X6_expression_27_L7 NF (n7 + 1) l4_7 v7 f7 = (1, v7, f7) := by
  simp only [gsX_X6_expression_27_L7, if_neg h0, h1, ite11, ite01, if_true, if_false]
def gsX_X6_expression_26_L6 (NF : Nat) : Nat → (Int32) → (Nat → Int32) → (Nat → Nat → Int32) → Int32 × (Nat → Int32) × (Nat → Nat → Int32)
  | 0, _, _, _ => (0, (fun _ => 0), (fun _ _ => 0))
  | n6 + 1, l4_6, v6, f6 =>
    if 1600 ≤ l4_6 then
      (1, v6, f6)
    else
      if gsX_X6_joins_1 NF 1 (v6 2) v6 f6 = 1 then
        match gsX_X9_advance_1 NF v6 f6 with
        | (v12, f13) =>
          match gsX_X6_expression_27 NF v12 f13 with
          | (r14, v16, f17) =>
            if r14 = 1 then
              match gsX_X4_add_1 NF (v6 2) 0 v16 f17 with
              | (v20, f21) =>
                let t22 : Int32 := l4_6 + 1
                gsX_X6_expression_26_L6 NF n6 t22 v20 f21
            else
              (0, v16, f17)
      else
        (1, v6, f6)
def gsX_X6_expression_26 (NF : Nat) (v : Nat → Int32) (f : Nat → Nat → Int32) : Int32 × (Nat → Int32) × (Nat → Nat → Int32) :=
  match gsX_X6_expression_27 NF v f with
  | (r1, v3, f4) =>
    if r1 = 1 then
      gsX_X6_expression_26_L6 NF (4294967296 + NF) 0 v3 f4
    else
      (0, v3, f4)
theorem gsX_X6_expression_26_q4 {NF : Nat} {v : Nat → Int32} {f : Nat → Nat → Int32} {v3 : Nat → Int32} {f4 : Nat → Nat → Int32} (h0 : gsX_X6_expression_27 NF v f = (1, v3, f4)) : gsX_X6_expression_26 NF v f = gsX_X6_expression_26_L6 NF (4294967296 + NF) 0 v3 f4 := by
  simp only [gsX_X6_expression_26, h0, ite11, ite01, if_true, if_false]
theorem gsX_X6_expression_26_q5 {NF : Nat} {v : Nat → Int32} {f : Nat → Nat → Int32} {v3 : Nat → Int32} {f4 : Nat → Nat → Int32} (h0 : gsX_X6_expression_27 NF v f = (0, v3, f4)) : gsX_X6_expression_26 NF v f = (0, v3, f4) := by
  simp only [gsX_X6_expression_26, h0, ite11, ite01, if_true, if_false]
theorem gsX_X6_expression_26_q0 {NF : Nat} {n6 : Nat} {l4_6 : Int32} {v6 : Nat → Int32} {f6 : Nat → Nat → Int32} (h0 : (1600 ≤ l4_6)) : gsX_X6_expression_26_L6 NF (n6 + 1) l4_6 v6 f6 = (1, v6, f6) := by
  simp only [gsX_X6_expression_26_L6, if_pos h0]
theorem gsX_X6_expression_26_q1 {NF : Nat} {n6 : Nat} {l4_6 : Int32} {v6 : Nat → Int32} {f6 : Nat → Nat → Int32} {v12 : Nat → Int32} {f13 : Nat → Nat → Int32} {v16 : Nat → Int32} {f17 : Nat → Nat → Int32} {v20 : Nat → Int32} {f21 : Nat → Nat → Int32} {t22 : Int32} (h0 : ¬ (1600 ≤ l4_6)) (h1 : gsX_X6_joins_1 NF 1 (v6 2) v6 f6 = 1) (h2 : gsX_X9_advance_1 NF v6 f6 = (v12, f13)) (h3 : gsX_X6_expression_27 NF v12 f13 = (1, v16, f17)) (h5 : gsX_X4_add_1 NF (v6 2) 0 v16 f17 = (v20, f21)) (h6 : t22 = l4_6 + 1) : gsX_X6_expression_26_L6 NF (n6 + 1) l4_6 v6 f6 = gsX_X6_expression_26_L6 NF n6 t22 v20 f21 := by
  subst h6
  simp only [gsX_X6_expression_26_L6, if_neg h0, h1, h2, h3, h5, ite11, ite01, if_true, if_false]
theorem gsX_X6_expression_26_q2 {NF : Nat} {n6 : Nat} {l4_6 : Int32} {v6 : Nat → Int32} {f6 : Nat → Nat → Int32} {v12 : Nat → Int32} {f13 : Nat → Nat → Int32} {v16 : Nat → Int32} {f17 : Nat → Nat → Int32} (h0 : ¬ (1600 ≤ l4_6)) (h1 : gsX_X6_joins_1 NF 1 (v6 2) v6 f6 = 1) (h2 : gsX_X9_advance_1 NF v6 f6 = (v12, f13)) (h3 : gsX_X6_expression_27 NF v12 f13 = (0, v16, f17)) : gsX_X6_expression_26_L6 NF (n6 + 1) l4_6 v6 f6 = (0, v16, f17) := by
  simp only [gsX_X6_expression_26_L6, if_neg h0, h1, h2, h3, ite11, ite01, if_true, if_false]
theorem gsX_X6_expression_26_q3 {NF : Nat} {n6 : Nat} {l4_6 : Int32} {v6 : Nat → Int32} {f6 : Nat → Nat → Int32} (h0 : ¬ (1600 ≤ l4_6)) (h1 : gsX_X6_joins_1 NF 1 (v6 2) v6 f6 = 0) : gsX_X6_expression_26_L6 NF (n6 + 1) l4_6 v6 f6 = (1, v6, f6) := by
  simp only [gsX_X6_expression_26_L6, if_neg h0, h1, ite11, ite01, if_true, if_false]
def gsX_X6_expression_25_L6 (NF : Nat) : Nat → (Int32) → (Nat → Int32) → (Nat → Nat → Int32) → Int32 × (Nat → Int32) × (Nat → Nat → Int32)
  | 0, _, _, _ => (0, (fun _ => 0), (fun _ _ => 0))
  | n6 + 1, l4_6, v6, f6 =>
    if 1600 ≤ l4_6 then
      (1, v6, f6)
    else
      if gsX_X6_joins_1 NF 0 (v6 2) v6 f6 = 1 then
        match gsX_X9_advance_1 NF v6 f6 with
        | (v12, f13) =>
          match gsX_X6_expression_26 NF v12 f13 with
          | (r14, v16, f17) =>
            if r14 = 1 then
              match gsX_X4_add_1 NF (v6 2) 0 v16 f17 with
              | (v20, f21) =>
                let t22 : Int32 := l4_6 + 1
                gsX_X6_expression_25_L6 NF n6 t22 v20 f21
            else
              (0, v16, f17)
      else
        (1, v6, f6)
def gsX_X6_expression_25 (NF : Nat) (v : Nat → Int32) (f : Nat → Nat → Int32) : Int32 × (Nat → Int32) × (Nat → Nat → Int32) :=
  match gsX_X6_expression_26 NF v f with
  | (r1, v3, f4) =>
    if r1 = 1 then
      gsX_X6_expression_25_L6 NF (4294967296 + NF) 0 v3 f4
    else
      (0, v3, f4)
theorem gsX_X6_expression_25_q4 {NF : Nat} {v : Nat → Int32} {f : Nat → Nat → Int32} {v3 : Nat → Int32} {f4 : Nat → Nat → Int32} (h0 : gsX_X6_expression_26 NF v f = (1, v3, f4)) : gsX_X6_expression_25 NF v f = gsX_X6_expression_25_L6 NF (4294967296 + NF) 0 v3 f4 := by
  simp only [gsX_X6_expression_25, h0, ite11, ite01, if_true, if_false]
theorem gsX_X6_expression_25_q5 {NF : Nat} {v : Nat → Int32} {f : Nat → Nat → Int32} {v3 : Nat → Int32} {f4 : Nat → Nat → Int32} (h0 : gsX_X6_expression_26 NF v f = (0, v3, f4)) : gsX_X6_expression_25 NF v f = (0, v3, f4) := by
  simp only [gsX_X6_expression_25, h0, ite11, ite01, if_true, if_false]
theorem gsX_X6_expression_25_q0 {NF : Nat} {n6 : Nat} {l4_6 : Int32} {v6 : Nat → Int32} {f6 : Nat → Nat → Int32} (h0 : (1600 ≤ l4_6)) : gsX_X6_expression_25_L6 NF (n6 + 1) l4_6 v6 f6 = (1, v6, f6) := by
  simp only [gsX_X6_expression_25_L6, if_pos h0]
theorem gsX_X6_expression_25_q1 {NF : Nat} {n6 : Nat} {l4_6 : Int32} {v6 : Nat → Int32} {f6 : Nat → Nat → Int32} {v12 : Nat → Int32} {f13 : Nat → Nat → Int32} {v16 : Nat → Int32} {f17 : Nat → Nat → Int32} {v20 : Nat → Int32} {f21 : Nat → Nat → Int32} {t22 : Int32} (h0 : ¬ (1600 ≤ l4_6)) (h1 : gsX_X6_joins_1 NF 0 (v6 2) v6 f6 = 1) (h2 : gsX_X9_advance_1 NF v6 f6 = (v12, f13)) (h3 : gsX_X6_expression_26 NF v12 f13 = (1, v16, f17)) (h5 : gsX_X4_add_1 NF (v6 2) 0 v16 f17 = (v20, f21)) (h6 : t22 = l4_6 + 1) : gsX_X6_expression_25_L6 NF (n6 + 1) l4_6 v6 f6 = gsX_X6_expression_25_L6 NF n6 t22 v20 f21 := by
  subst h6
  simp only [gsX_X6_expression_25_L6, if_neg h0, h1, h2, h3, h5, ite11, ite01, if_true, if_false]
theorem gsX_X6_expression_25_q2 {NF : Nat} {n6 : Nat} {l4_6 : Int32} {v6 : Nat → Int32} {f6 : Nat → Nat → Int32} {v12 : Nat → Int32} {f13 : Nat → Nat → Int32} {v16 : Nat → Int32} {f17 : Nat → Nat → Int32} (h0 : ¬ (1600 ≤ l4_6)) (h1 : gsX_X6_joins_1 NF 0 (v6 2) v6 f6 = 1) (h2 : gsX_X9_advance_1 NF v6 f6 = (v12, f13)) (h3 : gsX_X6_expression_26 NF v12 f13 = (0, v16, f17)) : gsX_X6_expression_25_L6 NF (n6 + 1) l4_6 v6 f6 = (0, v16, f17) := by
  simp only [gsX_X6_expression_25_L6, if_neg h0, h1, h2, h3, ite11, ite01, if_true, if_false]
theorem gsX_X6_expression_25_q3 {NF : Nat} {n6 : Nat} {l4_6 : Int32} {v6 : Nat → Int32} {f6 : Nat → Nat → Int32} (h0 : ¬ (1600 ≤ l4_6)) (h1 : gsX_X6_joins_1 NF 0 (v6 2) v6 f6 = 0) : gsX_X6_expression_25_L6 NF (n6 + 1) l4_6 v6 f6 = (1, v6, f6) := by
  simp only [gsX_X6_expression_25_L6, if_neg h0, h1, ite11, ite01, if_true, if_false]
def gsX_X6_unit_4 (NF : Nat) (v : Nat → Int32) (f : Nat → Nat → Int32) : Int32 × (Nat → Int32) × (Nat → Nat → Int32) :=
  if (v 2) = 2 then
    if (v 17) < 30 then
      match gsX_X4_add_1 NF (v 2) (v 5) v f with
      | (v4, f5) =>
        let t6 : Int32 := (v4 17) + 1
        match gsX_X9_advance_1 NF (upd v4 17 t6) f5 with
        | (v8, f9) =>
          (1, v8, f9)
    else
      match gsX_X6_refuse_1 NF v f with
      | (r10, v12, f13) =>
        if r10 = 1 then
          (1, v12, f13)
        else
          (0, v12, f13)
  else
    if (v 2) < 116 then
      if (v 2) = 40 then
        if (v 17) < 30 then
          let t23 : Int32 := (v 17) + 1
          match gsX_X9_advance_1 NF (upd v 17 t23) f with
          | (v26, f27) =>
            match stk NF (gsX_X6_expression_25 NF v26 f27) with
            | (r28, v30, f31) =>
              if r28 = 1 then
                match gsX_X6_taken_1 NF 41 v30 f31 with
                | (r33, v35, f36) =>
                  if r33 = 1 then
                    (1, v35, f36)
                  else
                    (0, v35, f36)
              else
                (0, v30, f31)
        else
          match gsX_X6_refuse_1 NF v f with
          | (r38, v40, f41) =>
            if r38 = 1 then
              (1, v40, f41)
            else
              (0, v40, f41)
      else
        match gsX_X6_refuse_1 NF v f with
        | (r17, v19, f20) =>
          if r17 = 1 then
            (1, v19, f20)
          else
            (0, v19, f20)
    else
      if 121 < (v 2) then
        if (v 2) = 40 then
          if (v 17) < 30 then
            let t51 : Int32 := (v 17) + 1
            match gsX_X9_advance_1 NF (upd v 17 t51) f with
            | (v54, f55) =>
              match stk NF (gsX_X6_expression_25 NF v54 f55) with
              | (r56, v58, f59) =>
                if r56 = 1 then
                  match gsX_X6_taken_1 NF 41 v58 f59 with
                  | (r61, v63, f64) =>
                    if r61 = 1 then
                      (1, v63, f64)
                    else
                      (0, v63, f64)
                else
                  (0, v58, f59)
          else
            match gsX_X6_refuse_1 NF v f with
            | (r66, v68, f69) =>
              if r66 = 1 then
                (1, v68, f69)
              else
                (0, v68, f69)
        else
          match gsX_X6_refuse_1 NF v f with
          | (r45, v47, f48) =>
            if r45 = 1 then
              (1, v47, f48)
            else
              (0, v47, f48)
      else
        if (v 17) < 30 then
          match gsX_X4_add_1 NF (v 2) (v 5) v f with
          | (v73, f74) =>
            let t75 : Int32 := (v73 17) + 1
            match gsX_X9_advance_1 NF (upd v73 17 t75) f74 with
            | (v77, f78) =>
              (1, v77, f78)
        else
          match gsX_X6_refuse_1 NF v f with
          | (r79, v81, f82) =>
            if r79 = 1 then
              (1, v81, f82)
            else
              (0, v81, f82)
theorem gsX_X6_unit_4_q0 {NF : Nat} {v : Nat → Int32} {f : Nat → Nat → Int32} {v4 : Nat → Int32} {f5 : Nat → Nat → Int32} {t6 : Int32} {v8 : Nat → Int32} {f9 : Nat → Nat → Int32} (h0 : ((v 2) = 2)) (h1 : ((v 17) < 30)) (h2 : gsX_X4_add_1 NF (v 2) (v 5) v f = (v4, f5)) (h3 : t6 = (v4 17) + 1) (h4 : gsX_X9_advance_1 NF (upd v4 17 t6) f5 = (v8, f9)) : gsX_X6_unit_4 NF v f = (1, v8, f9) := by
  subst h3
  simp only [gsX_X6_unit_4, stk_eq, if_pos h0, if_pos h1, h2, h4]
theorem gsX_X6_unit_4_q1 {NF : Nat} {v : Nat → Int32} {f : Nat → Nat → Int32} {v12 : Nat → Int32} {f13 : Nat → Nat → Int32} (h0 : ((v 2) = 2)) (h1 : ¬ ((v 17) < 30)) (h2 : gsX_X6_refuse_1 NF v f = (1, v12, f13)) : gsX_X6_unit_4 NF v f = (1, v12, f13) := by
  simp only [gsX_X6_unit_4, stk_eq, if_pos h0, if_neg h1, h2, ite11, ite01, if_true, if_false]
theorem gsX_X6_unit_4_q2 {NF : Nat} {v : Nat → Int32} {f : Nat → Nat → Int32} {v12 : Nat → Int32} {f13 : Nat → Nat → Int32} (h0 : ((v 2) = 2)) (h1 : ¬ ((v 17) < 30)) (h2 : gsX_X6_refuse_1 NF v f = (0, v12, f13)) : gsX_X6_unit_4 NF v f = (0, v12, f13) := by
  simp only [gsX_X6_unit_4, stk_eq, if_pos h0, if_neg h1, h2, ite11, ite01, if_true, if_false]
theorem gsX_X6_unit_4_q3 {NF : Nat} {v : Nat → Int32} {f : Nat → Nat → Int32} {v19 : Nat → Int32} {f20 : Nat → Nat → Int32} (h0 : ¬ ((v 2) = 2)) (h1 : ((v 2) < 116)) (h2 : ¬ ((v 2) = 40)) (h3 : gsX_X6_refuse_1 NF v f = (1, v19, f20)) : gsX_X6_unit_4 NF v f = (1, v19, f20) := by
  simp only [gsX_X6_unit_4, stk_eq, if_neg h0, if_pos h1, if_neg h2, h3, ite11, ite01, if_true, if_false]
theorem gsX_X6_unit_4_q4 {NF : Nat} {v : Nat → Int32} {f : Nat → Nat → Int32} {v19 : Nat → Int32} {f20 : Nat → Nat → Int32} (h0 : ¬ ((v 2) = 2)) (h1 : ((v 2) < 116)) (h2 : ¬ ((v 2) = 40)) (h3 : gsX_X6_refuse_1 NF v f = (0, v19, f20)) : gsX_X6_unit_4 NF v f = (0, v19, f20) := by
  simp only [gsX_X6_unit_4, stk_eq, if_neg h0, if_pos h1, if_neg h2, h3, ite11, ite01, if_true, if_false]
theorem gsX_X6_unit_4_q5 {NF : Nat} {v : Nat → Int32} {f : Nat → Nat → Int32} {t23 : Int32} {v26 : Nat → Int32} {f27 : Nat → Nat → Int32} {v30 : Nat → Int32} {f31 : Nat → Nat → Int32} {v35 : Nat → Int32} {f36 : Nat → Nat → Int32} (h0 : ¬ ((v 2) = 2)) (h1 : ((v 2) < 116)) (h2 : ((v 2) = 40)) (h3 : ((v 17) < 30)) (h4 : t23 = (v 17) + 1) (h5 : gsX_X9_advance_1 NF (upd v 17 t23) f = (v26, f27)) (h6 : gsX_X6_expression_25 NF v26 f27 = (1, v30, f31)) (h8 : gsX_X6_taken_1 NF 41 v30 f31 = (1, v35, f36)) : gsX_X6_unit_4 NF v f = (1, v35, f36) := by
  subst h4
  simp only [gsX_X6_unit_4, stk_eq, if_neg h0, if_pos h1, if_pos h2, if_pos h3, h5, h6, h8, ite11, ite01, if_true, if_false]
theorem gsX_X6_unit_4_q6 {NF : Nat} {v : Nat → Int32} {f : Nat → Nat → Int32} {t23 : Int32} {v26 : Nat → Int32} {f27 : Nat → Nat → Int32} {v30 : Nat → Int32} {f31 : Nat → Nat → Int32} {v35 : Nat → Int32} {f36 : Nat → Nat → Int32} (h0 : ¬ ((v 2) = 2)) (h1 : ((v 2) < 116)) (h2 : ((v 2) = 40)) (h3 : ((v 17) < 30)) (h4 : t23 = (v 17) + 1) (h5 : gsX_X9_advance_1 NF (upd v 17 t23) f = (v26, f27)) (h6 : gsX_X6_expression_25 NF v26 f27 = (1, v30, f31)) (h8 : gsX_X6_taken_1 NF 41 v30 f31 = (0, v35, f36)) : gsX_X6_unit_4 NF v f = (0, v35, f36) := by
  subst h4
  simp only [gsX_X6_unit_4, stk_eq, if_neg h0, if_pos h1, if_pos h2, if_pos h3, h5, h6, h8, ite11, ite01, if_true, if_false]
theorem gsX_X6_unit_4_q7 {NF : Nat} {v : Nat → Int32} {f : Nat → Nat → Int32} {t23 : Int32} {v26 : Nat → Int32} {f27 : Nat → Nat → Int32} {v30 : Nat → Int32} {f31 : Nat → Nat → Int32} (h0 : ¬ ((v 2) = 2)) (h1 : ((v 2) < 116)) (h2 : ((v 2) = 40)) (h3 : ((v 17) < 30)) (h4 : t23 = (v 17) + 1) (h5 : gsX_X9_advance_1 NF (upd v 17 t23) f = (v26, f27)) (h6 : gsX_X6_expression_25 NF v26 f27 = (0, v30, f31)) : gsX_X6_unit_4 NF v f = (0, v30, f31) := by
  subst h4
  simp only [gsX_X6_unit_4, stk_eq, if_neg h0, if_pos h1, if_pos h2, if_pos h3, h5, h6, ite11, ite01, if_true, if_false]
theorem gsX_X6_unit_4_q8 {NF : Nat} {v : Nat → Int32} {f : Nat → Nat → Int32} {v40 : Nat → Int32} {f41 : Nat → Nat → Int32} (h0 : ¬ ((v 2) = 2)) (h1 : ((v 2) < 116)) (h2 : ((v 2) = 40)) (h3 : ¬ ((v 17) < 30)) (h4 : gsX_X6_refuse_1 NF v f = (1, v40, f41)) : gsX_X6_unit_4 NF v f = (1, v40, f41) := by
  simp only [gsX_X6_unit_4, stk_eq, if_neg h0, if_pos h1, if_pos h2, if_neg h3, h4, ite11, ite01, if_true, if_false]
theorem gsX_X6_unit_4_q9 {NF : Nat} {v : Nat → Int32} {f : Nat → Nat → Int32} {v40 : Nat → Int32} {f41 : Nat → Nat → Int32} (h0 : ¬ ((v 2) = 2)) (h1 : ((v 2) < 116)) (h2 : ((v 2) = 40)) (h3 : ¬ ((v 17) < 30)) (h4 : gsX_X6_refuse_1 NF v f = (0, v40, f41)) : gsX_X6_unit_4 NF v f = (0, v40, f41) := by
  simp only [gsX_X6_unit_4, stk_eq, if_neg h0, if_pos h1, if_pos h2, if_neg h3, h4, ite11, ite01, if_true, if_false]
theorem gsX_X6_unit_4_q10 {NF : Nat} {v : Nat → Int32} {f : Nat → Nat → Int32} {v47 : Nat → Int32} {f48 : Nat → Nat → Int32} (h0 : ¬ ((v 2) = 2)) (h1 : ¬ ((v 2) < 116)) (h2 : (121 < (v 2))) (h3 : ¬ ((v 2) = 40)) (h4 : gsX_X6_refuse_1 NF v f = (1, v47, f48)) : gsX_X6_unit_4 NF v f = (1, v47, f48) := by
  simp only [gsX_X6_unit_4, stk_eq, if_neg h0, if_neg h1, if_pos h2, if_neg h3, h4, ite11, ite01, if_true, if_false]
theorem gsX_X6_unit_4_q11 {NF : Nat} {v : Nat → Int32} {f : Nat → Nat → Int32} {v47 : Nat → Int32} {f48 : Nat → Nat → Int32} (h0 : ¬ ((v 2) = 2)) (h1 : ¬ ((v 2) < 116)) (h2 : (121 < (v 2))) (h3 : ¬ ((v 2) = 40)) (h4 : gsX_X6_refuse_1 NF v f = (0, v47, f48)) : gsX_X6_unit_4 NF v f = (0, v47, f48) := by
  simp only [gsX_X6_unit_4, stk_eq, if_neg h0, if_neg h1, if_pos h2, if_neg h3, h4, ite11, ite01, if_true, if_false]
theorem gsX_X6_unit_4_q12 {NF : Nat} {v : Nat → Int32} {f : Nat → Nat → Int32} {t51 : Int32} {v54 : Nat → Int32} {f55 : Nat → Nat → Int32} {v58 : Nat → Int32} {f59 : Nat → Nat → Int32} {v63 : Nat → Int32} {f64 : Nat → Nat → Int32} (h0 : ¬ ((v 2) = 2)) (h1 : ¬ ((v 2) < 116)) (h2 : (121 < (v 2))) (h3 : ((v 2) = 40)) (h4 : ((v 17) < 30)) (h5 : t51 = (v 17) + 1) (h6 : gsX_X9_advance_1 NF (upd v 17 t51) f = (v54, f55)) (h7 : gsX_X6_expression_25 NF v54 f55 = (1, v58, f59)) (h9 : gsX_X6_taken_1 NF 41 v58 f59 = (1, v63, f64)) : gsX_X6_unit_4 NF v f = (1, v63, f64) := by
  subst h5
  simp only [gsX_X6_unit_4, stk_eq, if_neg h0, if_neg h1, if_pos h2, if_pos h3, if_pos h4, h6, h7, h9, ite11, ite01, if_true, if_false]
theorem gsX_X6_unit_4_q13 {NF : Nat} {v : Nat → Int32} {f : Nat → Nat → Int32} {t51 : Int32} {v54 : Nat → Int32} {f55 : Nat → Nat → Int32} {v58 : Nat → Int32} {f59 : Nat → Nat → Int32} {v63 : Nat → Int32} {f64 : Nat → Nat → Int32} (h0 : ¬ ((v 2) = 2)) (h1 : ¬ ((v 2) < 116)) (h2 : (121 < (v 2))) (h3 : ((v 2) = 40)) (h4 : ((v 17) < 30)) (h5 : t51 = (v 17) + 1) (h6 : gsX_X9_advance_1 NF (upd v 17 t51) f = (v54, f55)) (h7 : gsX_X6_expression_25 NF v54 f55 = (1, v58, f59)) (h9 : gsX_X6_taken_1 NF 41 v58 f59 = (0, v63, f64)) : gsX_X6_unit_4 NF v f = (0, v63, f64) := by
  subst h5
  simp only [gsX_X6_unit_4, stk_eq, if_neg h0, if_neg h1, if_pos h2, if_pos h3, if_pos h4, h6, h7, h9, ite11, ite01, if_true, if_false]
theorem gsX_X6_unit_4_q14 {NF : Nat} {v : Nat → Int32} {f : Nat → Nat → Int32} {t51 : Int32} {v54 : Nat → Int32} {f55 : Nat → Nat → Int32} {v58 : Nat → Int32} {f59 : Nat → Nat → Int32} (h0 : ¬ ((v 2) = 2)) (h1 : ¬ ((v 2) < 116)) (h2 : (121 < (v 2))) (h3 : ((v 2) = 40)) (h4 : ((v 17) < 30)) (h5 : t51 = (v 17) + 1) (h6 : gsX_X9_advance_1 NF (upd v 17 t51) f = (v54, f55)) (h7 : gsX_X6_expression_25 NF v54 f55 = (0, v58, f59)) : gsX_X6_unit_4 NF v f = (0, v58, f59) := by
  subst h5
  simp only [gsX_X6_unit_4, stk_eq, if_neg h0, if_neg h1, if_pos h2, if_pos h3, if_pos h4, h6, h7, ite11, ite01, if_true, if_false]
theorem gsX_X6_unit_4_q15 {NF : Nat} {v : Nat → Int32} {f : Nat → Nat → Int32} {v68 : Nat → Int32} {f69 : Nat → Nat → Int32} (h0 : ¬ ((v 2) = 2)) (h1 : ¬ ((v 2) < 116)) (h2 : (121 < (v 2))) (h3 : ((v 2) = 40)) (h4 : ¬ ((v 17) < 30)) (h5 : gsX_X6_refuse_1 NF v f = (1, v68, f69)) : gsX_X6_unit_4 NF v f = (1, v68, f69) := by
  simp only [gsX_X6_unit_4, stk_eq, if_neg h0, if_neg h1, if_pos h2, if_pos h3, if_neg h4, h5, ite11, ite01, if_true, if_false]
theorem gsX_X6_unit_4_q16 {NF : Nat} {v : Nat → Int32} {f : Nat → Nat → Int32} {v68 : Nat → Int32} {f69 : Nat → Nat → Int32} (h0 : ¬ ((v 2) = 2)) (h1 : ¬ ((v 2) < 116)) (h2 : (121 < (v 2))) (h3 : ((v 2) = 40)) (h4 : ¬ ((v 17) < 30)) (h5 : gsX_X6_refuse_1 NF v f = (0, v68, f69)) : gsX_X6_unit_4 NF v f = (0, v68, f69) := by
  simp only [gsX_X6_unit_4, stk_eq, if_neg h0, if_neg h1, if_pos h2, if_pos h3, if_neg h4, h5, ite11, ite01, if_true, if_false]
theorem gsX_X6_unit_4_q17 {NF : Nat} {v : Nat → Int32} {f : Nat → Nat → Int32} {v73 : Nat → Int32} {f74 : Nat → Nat → Int32} {t75 : Int32} {v77 : Nat → Int32} {f78 : Nat → Nat → Int32} (h0 : ¬ ((v 2) = 2)) (h1 : ¬ ((v 2) < 116)) (h2 : ¬ (121 < (v 2))) (h3 : ((v 17) < 30)) (h4 : gsX_X4_add_1 NF (v 2) (v 5) v f = (v73, f74)) (h5 : t75 = (v73 17) + 1) (h6 : gsX_X9_advance_1 NF (upd v73 17 t75) f74 = (v77, f78)) : gsX_X6_unit_4 NF v f = (1, v77, f78) := by
  subst h5
  simp only [gsX_X6_unit_4, stk_eq, if_neg h0, if_neg h1, if_neg h2, if_pos h3, h4, h6]
theorem gsX_X6_unit_4_q18 {NF : Nat} {v : Nat → Int32} {f : Nat → Nat → Int32} {v81 : Nat → Int32} {f82 : Nat → Nat → Int32} (h0 : ¬ ((v 2) = 2)) (h1 : ¬ ((v 2) < 116)) (h2 : ¬ (121 < (v 2))) (h3 : ¬ ((v 17) < 30)) (h4 : gsX_X6_refuse_1 NF v f = (1, v81, f82)) : gsX_X6_unit_4 NF v f = (1, v81, f82) := by
  simp only [gsX_X6_unit_4, stk_eq, if_neg h0, if_neg h1, if_neg h2, if_neg h3, h4, ite11, ite01, if_true, if_false]
theorem gsX_X6_unit_4_q19 {NF : Nat} {v : Nat → Int32} {f : Nat → Nat → Int32} {v81 : Nat → Int32} {f82 : Nat → Nat → Int32} (h0 : ¬ ((v 2) = 2)) (h1 : ¬ ((v 2) < 116)) (h2 : ¬ (121 < (v 2))) (h3 : ¬ ((v 17) < 30)) (h4 : gsX_X6_refuse_1 NF v f = (0, v81, f82)) : gsX_X6_unit_4 NF v f = (0, v81, f82) := by
  simp only [gsX_X6_unit_4, stk_eq, if_neg h0, if_neg h1, if_neg h2, if_neg h3, h4, ite11, ite01, if_true, if_false]
def gsX_X6_expression_24 (NF : Nat) (v : Nat → Int32) (f : Nat → Nat → Int32) : Int32 × (Nat → Int32) × (Nat → Nat → Int32) :=
  match gsX_X6_unit_4 NF v f with
  | (r1, v3, f4) =>
    if r1 = 1 then
      (1, v3, f4)
    else
      (0, v3, f4)
theorem gsX_X6_expression_24_q0 {NF : Nat} {v : Nat → Int32} {f : Nat → Nat → Int32} {v3 : Nat → Int32} {f4 : Nat → Nat → Int32} (h0 : gsX_X6_unit_4 NF v f = (1, v3, f4)) : gsX_X6_expression_24 NF v f = (1, v3, f4) := by
  simp only [gsX_X6_expression_24, h0, ite11, ite01, if_true, if_false]
theorem gsX_X6_expression_24_q1 {NF : Nat} {v : Nat → Int32} {f : Nat → Nat → Int32} {v3 : Nat → Int32} {f4 : Nat → Nat → Int32} (h0 : gsX_X6_unit_4 NF v f = (0, v3, f4)) : gsX_X6_expression_24 NF v f = (0, v3, f4) := by
  simp only [gsX_X6_expression_24, h0, ite11, ite01, if_true, if_false]
def gsX_X6_expression_23_L6 (NF : Nat) : Nat → (Int32) → (Nat → Int32) → (Nat → Nat → Int32) → Int32 × (Nat → Int32) × (Nat → Nat → Int32)
  | 0, _, _, _ => (0, (fun _ => 0), (fun _ _ => 0))
  | n6 + 1, l4_6, v6, f6 =>
    if 1600 ≤ l4_6 then
      (1, v6, f6)
    else
      if gsX_X6_joins_1 NF 4 (v6 2) v6 f6 = 1 then
        match gsX_X9_advance_1 NF v6 f6 with
        | (v12, f13) =>
          match gsX_X6_expression_24 NF v12 f13 with
          | (r14, v16, f17) =>
            if r14 = 1 then
              match gsX_X4_add_1 NF (v6 2) 0 v16 f17 with
              | (v20, f21) =>
                let t22 : Int32 := l4_6 + 1
                gsX_X6_expression_23_L6 NF n6 t22 v20 f21
            else
              (0, v16, f17)
      else
        (1, v6, f6)
def gsX_X6_expression_23 (NF : Nat) (v : Nat → Int32) (f : Nat → Nat → Int32) : Int32 × (Nat → Int32) × (Nat → Nat → Int32) :=
  match gsX_X6_expression_24 NF v f with
  | (r1, v3, f4) =>
    if r1 = 1 then
      gsX_X6_expression_23_L6 NF (4294967296 + NF) 0 v3 f4
    else
      (0, v3, f4)
theorem gsX_X6_expression_23_q4 {NF : Nat} {v : Nat → Int32} {f : Nat → Nat → Int32} {v3 : Nat → Int32} {f4 : Nat → Nat → Int32} (h0 : gsX_X6_expression_24 NF v f = (1, v3, f4)) : gsX_X6_expression_23 NF v f = gsX_X6_expression_23_L6 NF (4294967296 + NF) 0 v3 f4 := by
  simp only [gsX_X6_expression_23, h0, ite11, ite01, if_true, if_false]
theorem gsX_X6_expression_23_q5 {NF : Nat} {v : Nat → Int32} {f : Nat → Nat → Int32} {v3 : Nat → Int32} {f4 : Nat → Nat → Int32} (h0 : gsX_X6_expression_24 NF v f = (0, v3, f4)) : gsX_X6_expression_23 NF v f = (0, v3, f4) := by
  simp only [gsX_X6_expression_23, h0, ite11, ite01, if_true, if_false]
theorem gsX_X6_expression_23_q0 {NF : Nat} {n6 : Nat} {l4_6 : Int32} {v6 : Nat → Int32} {f6 : Nat → Nat → Int32} (h0 : (1600 ≤ l4_6)) : gsX_X6_expression_23_L6 NF (n6 + 1) l4_6 v6 f6 = (1, v6, f6) := by
  simp only [gsX_X6_expression_23_L6, if_pos h0]
theorem gsX_X6_expression_23_q1 {NF : Nat} {n6 : Nat} {l4_6 : Int32} {v6 : Nat → Int32} {f6 : Nat → Nat → Int32} {v12 : Nat → Int32} {f13 : Nat → Nat → Int32} {v16 : Nat → Int32} {f17 : Nat → Nat → Int32} {v20 : Nat → Int32} {f21 : Nat → Nat → Int32} {t22 : Int32} (h0 : ¬ (1600 ≤ l4_6)) (h1 : gsX_X6_joins_1 NF 4 (v6 2) v6 f6 = 1) (h2 : gsX_X9_advance_1 NF v6 f6 = (v12, f13)) (h3 : gsX_X6_expression_24 NF v12 f13 = (1, v16, f17)) (h5 : gsX_X4_add_1 NF (v6 2) 0 v16 f17 = (v20, f21)) (h6 : t22 = l4_6 + 1) : gsX_X6_expression_23_L6 NF (n6 + 1) l4_6 v6 f6 = gsX_X6_expression_23_L6 NF n6 t22 v20 f21 := by
  subst h6
  simp only [gsX_X6_expression_23_L6, if_neg h0, h1, h2, h3, h5, ite11, ite01, if_true, if_false]
theorem gsX_X6_expression_23_q2 {NF : Nat} {n6 : Nat} {l4_6 : Int32} {v6 : Nat → Int32} {f6 : Nat → Nat → Int32} {v12 : Nat → Int32} {f13 : Nat → Nat → Int32} {v16 : Nat → Int32} {f17 : Nat → Nat → Int32} (h0 : ¬ (1600 ≤ l4_6)) (h1 : gsX_X6_joins_1 NF 4 (v6 2) v6 f6 = 1) (h2 : gsX_X9_advance_1 NF v6 f6 = (v12, f13)) (h3 : gsX_X6_expression_24 NF v12 f13 = (0, v16, f17)) : gsX_X6_expression_23_L6 NF (n6 + 1) l4_6 v6 f6 = (0, v16, f17) := by
  simp only [gsX_X6_expression_23_L6, if_neg h0, h1, h2, h3, ite11, ite01, if_true, if_false]
theorem gsX_X6_expression_23_q3 {NF : Nat} {n6 : Nat} {l4_6 : Int32} {v6 : Nat → Int32} {f6 : Nat → Nat → Int32} (h0 : ¬ (1600 ≤ l4_6)) (h1 : gsX_X6_joins_1 NF 4 (v6 2) v6 f6 = 0) : gsX_X6_expression_23_L6 NF (n6 + 1) l4_6 v6 f6 = (1, v6, f6) := by
  simp only [gsX_X6_expression_23_L6, if_neg h0, h1, ite11, ite01, if_true, if_false]
def gsX_X6_expression_22_L6 (NF : Nat) : Nat → (Int32) → (Nat → Int32) → (Nat → Nat → Int32) → Int32 × (Nat → Int32) × (Nat → Nat → Int32)
  | 0, _, _, _ => (0, (fun _ => 0), (fun _ _ => 0))
  | n6 + 1, l4_6, v6, f6 =>
    if 1600 ≤ l4_6 then
      (1, v6, f6)
    else
      if gsX_X6_joins_1 NF 3 (v6 2) v6 f6 = 1 then
        match gsX_X9_advance_1 NF v6 f6 with
        | (v12, f13) =>
          match gsX_X6_expression_23 NF v12 f13 with
          | (r14, v16, f17) =>
            if r14 = 1 then
              match gsX_X4_add_1 NF (v6 2) 0 v16 f17 with
              | (v20, f21) =>
                let t22 : Int32 := l4_6 + 1
                gsX_X6_expression_22_L6 NF n6 t22 v20 f21
            else
              (0, v16, f17)
      else
        (1, v6, f6)
def gsX_X6_expression_22 (NF : Nat) (v : Nat → Int32) (f : Nat → Nat → Int32) : Int32 × (Nat → Int32) × (Nat → Nat → Int32) :=
  match gsX_X6_expression_23 NF v f with
  | (r1, v3, f4) =>
    if r1 = 1 then
      gsX_X6_expression_22_L6 NF (4294967296 + NF) 0 v3 f4
    else
      (0, v3, f4)
theorem gsX_X6_expression_22_q4 {NF : Nat} {v : Nat → Int32} {f : Nat → Nat → Int32} {v3 : Nat → Int32} {f4 : Nat → Nat → Int32} (h0 : gsX_X6_expression_23 NF v f = (1, v3, f4)) : gsX_X6_expression_22 NF v f = gsX_X6_expression_22_L6 NF (4294967296 + NF) 0 v3 f4 := by
  simp only [gsX_X6_expression_22, h0, ite11, ite01, if_true, if_false]
theorem gsX_X6_expression_22_q5 {NF : Nat} {v : Nat → Int32} {f : Nat → Nat → Int32} {v3 : Nat → Int32} {f4 : Nat → Nat → Int32} (h0 : gsX_X6_expression_23 NF v f = (0, v3, f4)) : gsX_X6_expression_22 NF v f = (0, v3, f4) := by
  simp only [gsX_X6_expression_22, h0, ite11, ite01, if_true, if_false]
theorem gsX_X6_expression_22_q0 {NF : Nat} {n6 : Nat} {l4_6 : Int32} {v6 : Nat → Int32} {f6 : Nat → Nat → Int32} (h0 : (1600 ≤ l4_6)) : gsX_X6_expression_22_L6 NF (n6 + 1) l4_6 v6 f6 = (1, v6, f6) := by
  simp only [gsX_X6_expression_22_L6, if_pos h0]
theorem gsX_X6_expression_22_q1 {NF : Nat} {n6 : Nat} {l4_6 : Int32} {v6 : Nat → Int32} {f6 : Nat → Nat → Int32} {v12 : Nat → Int32} {f13 : Nat → Nat → Int32} {v16 : Nat → Int32} {f17 : Nat → Nat → Int32} {v20 : Nat → Int32} {f21 : Nat → Nat → Int32} {t22 : Int32} (h0 : ¬ (1600 ≤ l4_6)) (h1 : gsX_X6_joins_1 NF 3 (v6 2) v6 f6 = 1) (h2 : gsX_X9_advance_1 NF v6 f6 = (v12, f13)) (h3 : gsX_X6_expression_23 NF v12 f13 = (1, v16, f17)) (h5 : gsX_X4_add_1 NF (v6 2) 0 v16 f17 = (v20, f21)) (h6 : t22 = l4_6 + 1) : gsX_X6_expression_22_L6 NF (n6 + 1) l4_6 v6 f6 = gsX_X6_expression_22_L6 NF n6 t22 v20 f21 := by
  subst h6
  simp only [gsX_X6_expression_22_L6, if_neg h0, h1, h2, h3, h5, ite11, ite01, if_true, if_false]
theorem gsX_X6_expression_22_q2 {NF : Nat} {n6 : Nat} {l4_6 : Int32} {v6 : Nat → Int32} {f6 : Nat → Nat → Int32} {v12 : Nat → Int32} {f13 : Nat → Nat → Int32} {v16 : Nat → Int32} {f17 : Nat → Nat → Int32} (h0 : ¬ (1600 ≤ l4_6)) (h1 : gsX_X6_joins_1 NF 3 (v6 2) v6 f6 = 1) (h2 : gsX_X9_advance_1 NF v6 f6 = (v12, f13)) (h3 : gsX_X6_expression_23 NF v12 f13 = (0, v16, f17)) : gsX_X6_expression_22_L6 NF (n6 + 1) l4_6 v6 f6 = (0, v16, f17) := by
  simp only [gsX_X6_expression_22_L6, if_neg h0, h1, h2, h3, ite11, ite01, if_true, if_false]
theorem gsX_X6_expression_22_q3 {NF : Nat} {n6 : Nat} {l4_6 : Int32} {v6 : Nat → Int32} {f6 : Nat → Nat → Int32} (h0 : ¬ (1600 ≤ l4_6)) (h1 : gsX_X6_joins_1 NF 3 (v6 2) v6 f6 = 0) : gsX_X6_expression_22_L6 NF (n6 + 1) l4_6 v6 f6 = (1, v6, f6) := by
  simp only [gsX_X6_expression_22_L6, if_neg h0, h1, ite11, ite01, if_true, if_false]
def gsX_X6_negation_5 (NF : Nat) (v : Nat → Int32) (f : Nat → Nat → Int32) : Int32 × (Nat → Int32) × (Nat → Nat → Int32) :=
  match gsX_X9_advance_1 NF v f with
  | (v2, f3) =>
    match stk NF (gsX_X6_expression_27 NF v2 f3) with
    | (r4, v6, f7) =>
      if r4 = 1 then
        match gsX_X4_add_1 NF 115 0 v6 f7 with
        | (v10, f11) =>
          (1, v10, f11)
      else
        (0, v6, f7)
theorem gsX_X6_negation_5_q0 {NF : Nat} {v : Nat → Int32} {f : Nat → Nat → Int32} {v2 : Nat → Int32} {f3 : Nat → Nat → Int32} {v6 : Nat → Int32} {f7 : Nat → Nat → Int32} {v10 : Nat → Int32} {f11 : Nat → Nat → Int32} (h0 : gsX_X9_advance_1 NF v f = (v2, f3)) (h1 : gsX_X6_expression_27 NF v2 f3 = (1, v6, f7)) (h3 : gsX_X4_add_1 NF 115 0 v6 f7 = (v10, f11)) : gsX_X6_negation_5 NF v f = (1, v10, f11) := by
  simp only [gsX_X6_negation_5, stk_eq, h0, h1, h3, ite11, ite01, if_true, if_false]
theorem gsX_X6_negation_5_q1 {NF : Nat} {v : Nat → Int32} {f : Nat → Nat → Int32} {v2 : Nat → Int32} {f3 : Nat → Nat → Int32} {v6 : Nat → Int32} {f7 : Nat → Nat → Int32} (h0 : gsX_X9_advance_1 NF v f = (v2, f3)) (h1 : gsX_X6_expression_27 NF v2 f3 = (0, v6, f7)) : gsX_X6_negation_5 NF v f = (0, v6, f7) := by
  simp only [gsX_X6_negation_5, stk_eq, h0, h1, ite11, ite01, if_true, if_false]
def gsX_X6_expression_21_L7 (NF : Nat) : Nat → (Int32) → (Nat → Int32) → (Nat → Nat → Int32) → Int32 × (Nat → Int32) × (Nat → Nat → Int32)
  | 0, _, _, _ => (0, (fun _ => 0), (fun _ _ => 0))
  | n7 + 1, l4_7, v7, f7 =>
    if 1 ≤ l4_7 then
      (1, v7, f7)
    else
      if gsX_X6_joins_1 NF 2 (v7 2) v7 f7 = 1 then
        match gsX_X9_advance_1 NF v7 f7 with
        | (v13, f14) =>
          match gsX_X6_expression_22 NF v13 f14 with
          | (r15, v17, f18) =>
            if r15 = 1 then
              match gsX_X4_add_1 NF (v7 2) 0 v17 f18 with
              | (v21, f22) =>
                let t23 : Int32 := l4_7 + 1
                gsX_X6_expression_21_L7 NF n7 t23 v21 f22
            else
              (0, v17, f18)
      else
        (1, v7, f7)
def gsX_X6_expression_21 (NF : Nat) (v : Nat → Int32) (f : Nat → Nat → Int32) : Int32 × (Nat → Int32) × (Nat → Nat → Int32) :=
  if (v 2) = 115 then
    match gsX_X6_negation_5 NF v f with
    | (r26, v28, f29) =>
      if r26 = 1 then
        (1, v28, f29)
      else
        (0, v28, f29)
  else
    match gsX_X6_expression_22 NF v f with
    | (r2, v4, f5) =>
      if r2 = 1 then
        gsX_X6_expression_21_L7 NF (4294967296 + NF) 0 v4 f5
      else
        (0, v4, f5)
theorem gsX_X6_expression_21_q4 {NF : Nat} {v : Nat → Int32} {f : Nat → Nat → Int32} {v4 : Nat → Int32} {f5 : Nat → Nat → Int32} (h0 : ¬ ((v 2) = 115)) (h1 : gsX_X6_expression_22 NF v f = (1, v4, f5)) : gsX_X6_expression_21 NF v f = gsX_X6_expression_21_L7 NF (4294967296 + NF) 0 v4 f5 := by
  simp only [gsX_X6_expression_21, if_neg h0, h1, ite11, ite01, if_true, if_false]
theorem gsX_X6_expression_21_q5 {NF : Nat} {v : Nat → Int32} {f : Nat → Nat → Int32} {v4 : Nat → Int32} {f5 : Nat → Nat → Int32} (h0 : ¬ ((v 2) = 115)) (h1 : gsX_X6_expression_22 NF v f = (0, v4, f5)) : gsX_X6_expression_21 NF v f = (0, v4, f5) := by
  simp only [gsX_X6_expression_21, if_neg h0, h1, ite11, ite01, if_true, if_false]
theorem gsX_X6_expression_21_q6 {NF : Nat} {v : Nat → Int32} {f : Nat → Nat → Int32} {v28 : Nat → Int32} {f29 : Nat → Nat → Int32} (h0 : ((v 2) = 115)) (h1 : gsX_X6_negation_5 NF v f = (1, v28, f29)) : gsX_X6_expression_21 NF v f = (1, v28, f29) := by
  simp only [gsX_X6_expression_21, if_pos h0, h1, ite11, ite01, if_true, if_false]
theorem gsX_X6_expression_21_q7 {NF : Nat} {v : Nat → Int32} {f : Nat → Nat → Int32} {v28 : Nat → Int32} {f29 : Nat → Nat → Int32} (h0 : ((v 2) = 115)) (h1 : gsX_X6_negation_5 NF v f = (0, v28, f29)) : gsX_X6_expression_21 NF v f = (0, v28, f29) := by
  simp only [gsX_X6_expression_21, if_pos h0, h1, ite11, ite01, if_true, if_false]
theorem gsX_X6_expression_21_q0 {NF : Nat} {n7 : Nat} {l4_7 : Int32} {v7 : Nat → Int32} {f7 : Nat → Nat → Int32} (h0 : (1 ≤ l4_7)) : gsX_X6_expression_21_L7 NF (n7 + 1) l4_7 v7 f7 = (1, v7, f7) := by
  simp only [gsX_X6_expression_21_L7, if_pos h0]
theorem gsX_X6_expression_21_q1 {NF : Nat} {n7 : Nat} {l4_7 : Int32} {v7 : Nat → Int32} {f7 : Nat → Nat → Int32} {v13 : Nat → Int32} {f14 : Nat → Nat → Int32} {v17 : Nat → Int32} {f18 : Nat → Nat → Int32} {v21 : Nat → Int32} {f22 : Nat → Nat → Int32} {t23 : Int32} (h0 : ¬ (1 ≤ l4_7)) (h1 : gsX_X6_joins_1 NF 2 (v7 2) v7 f7 = 1) (h2 : gsX_X9_advance_1 NF v7 f7 = (v13, f14)) (h3 : gsX_X6_expression_22 NF v13 f14 = (1, v17, f18)) (h5 : gsX_X4_add_1 NF (v7 2) 0 v17 f18 = (v21, f22)) (h6 : t23 = l4_7 + 1) : gsX_X6_expression_21_L7 NF (n7 + 1) l4_7 v7 f7 = gsX_X6_expression_21_L7 NF n7 t23 v21 f22 := by
  subst h6
  simp only [gsX_X6_expression_21_L7, if_neg h0, h1, h2, h3, h5, ite11, ite01, if_true, if_false]
theorem gsX_X6_expression_21_q2 {NF : Nat} {n7 : Nat} {l4_7 : Int32} {v7 : Nat → Int32} {f7 : Nat → Nat → Int32} {v13 : Nat → Int32} {f14 : Nat → Nat → Int32} {v17 : Nat → Int32} {f18 : Nat → Nat → Int32} (h0 : ¬ (1 ≤ l4_7)) (h1 : gsX_X6_joins_1 NF 2 (v7 2) v7 f7 = 1) (h2 : gsX_X9_advance_1 NF v7 f7 = (v13, f14)) (h3 : gsX_X6_expression_22 NF v13 f14 = (0, v17, f18)) : gsX_X6_expression_21_L7 NF (n7 + 1) l4_7 v7 f7 = (0, v17, f18) := by
  simp only [gsX_X6_expression_21_L7, if_neg h0, h1, h2, h3, ite11, ite01, if_true, if_false]
theorem gsX_X6_expression_21_q3 {NF : Nat} {n7 : Nat} {l4_7 : Int32} {v7 : Nat → Int32} {f7 : Nat → Nat → Int32} (h0 : ¬ (1 ≤ l4_7)) (h1 : gsX_X6_joins_1 NF 2 (v7 2) v7 f7 = 0) : gsX_X6_expression_21_L7 NF (n7 + 1) l4_7 v7 f7 = (1, v7, f7) := by
  simp only [gsX_X6_expression_21_L7, if_neg h0, h1, ite11, ite01, if_true, if_false]
def gsX_X6_expression_20_L6 (NF : Nat) : Nat → (Int32) → (Nat → Int32) → (Nat → Nat → Int32) → Int32 × (Nat → Int32) × (Nat → Nat → Int32)
  | 0, _, _, _ => (0, (fun _ => 0), (fun _ _ => 0))
  | n6 + 1, l4_6, v6, f6 =>
    if 1600 ≤ l4_6 then
      (1, v6, f6)
    else
      if gsX_X6_joins_1 NF 1 (v6 2) v6 f6 = 1 then
        match gsX_X9_advance_1 NF v6 f6 with
        | (v12, f13) =>
          match gsX_X6_expression_21 NF v12 f13 with
          | (r14, v16, f17) =>
            if r14 = 1 then
              match gsX_X4_add_1 NF (v6 2) 0 v16 f17 with
              | (v20, f21) =>
                let t22 : Int32 := l4_6 + 1
                gsX_X6_expression_20_L6 NF n6 t22 v20 f21
            else
              (0, v16, f17)
      else
        (1, v6, f6)
def gsX_X6_expression_20 (NF : Nat) (v : Nat → Int32) (f : Nat → Nat → Int32) : Int32 × (Nat → Int32) × (Nat → Nat → Int32) :=
  match gsX_X6_expression_21 NF v f with
  | (r1, v3, f4) =>
    if r1 = 1 then
      gsX_X6_expression_20_L6 NF (4294967296 + NF) 0 v3 f4
    else
      (0, v3, f4)
theorem gsX_X6_expression_20_q4 {NF : Nat} {v : Nat → Int32} {f : Nat → Nat → Int32} {v3 : Nat → Int32} {f4 : Nat → Nat → Int32} (h0 : gsX_X6_expression_21 NF v f = (1, v3, f4)) : gsX_X6_expression_20 NF v f = gsX_X6_expression_20_L6 NF (4294967296 + NF) 0 v3 f4 := by
  simp only [gsX_X6_expression_20, h0, ite11, ite01, if_true, if_false]
theorem gsX_X6_expression_20_q5 {NF : Nat} {v : Nat → Int32} {f : Nat → Nat → Int32} {v3 : Nat → Int32} {f4 : Nat → Nat → Int32} (h0 : gsX_X6_expression_21 NF v f = (0, v3, f4)) : gsX_X6_expression_20 NF v f = (0, v3, f4) := by
  simp only [gsX_X6_expression_20, h0, ite11, ite01, if_true, if_false]
theorem gsX_X6_expression_20_q0 {NF : Nat} {n6 : Nat} {l4_6 : Int32} {v6 : Nat → Int32} {f6 : Nat → Nat → Int32} (h0 : (1600 ≤ l4_6)) : gsX_X6_expression_20_L6 NF (n6 + 1) l4_6 v6 f6 = (1, v6, f6) := by
  simp only [gsX_X6_expression_20_L6, if_pos h0]
theorem gsX_X6_expression_20_q1 {NF : Nat} {n6 : Nat} {l4_6 : Int32} {v6 : Nat → Int32} {f6 : Nat → Nat → Int32} {v12 : Nat → Int32} {f13 : Nat → Nat → Int32} {v16 : Nat → Int32} {f17 : Nat → Nat → Int32} {v20 : Nat → Int32} {f21 : Nat → Nat → Int32} {t22 : Int32} (h0 : ¬ (1600 ≤ l4_6)) (h1 : gsX_X6_joins_1 NF 1 (v6 2) v6 f6 = 1) (h2 : gsX_X9_advance_1 NF v6 f6 = (v12, f13)) (h3 : gsX_X6_expression_21 NF v12 f13 = (1, v16, f17)) (h5 : gsX_X4_add_1 NF (v6 2) 0 v16 f17 = (v20, f21)) (h6 : t22 = l4_6 + 1) : gsX_X6_expression_20_L6 NF (n6 + 1) l4_6 v6 f6 = gsX_X6_expression_20_L6 NF n6 t22 v20 f21 := by
  subst h6
  simp only [gsX_X6_expression_20_L6, if_neg h0, h1, h2, h3, h5, ite11, ite01, if_true, if_false]
theorem gsX_X6_expression_20_q2 {NF : Nat} {n6 : Nat} {l4_6 : Int32} {v6 : Nat → Int32} {f6 : Nat → Nat → Int32} {v12 : Nat → Int32} {f13 : Nat → Nat → Int32} {v16 : Nat → Int32} {f17 : Nat → Nat → Int32} (h0 : ¬ (1600 ≤ l4_6)) (h1 : gsX_X6_joins_1 NF 1 (v6 2) v6 f6 = 1) (h2 : gsX_X9_advance_1 NF v6 f6 = (v12, f13)) (h3 : gsX_X6_expression_21 NF v12 f13 = (0, v16, f17)) : gsX_X6_expression_20_L6 NF (n6 + 1) l4_6 v6 f6 = (0, v16, f17) := by
  simp only [gsX_X6_expression_20_L6, if_neg h0, h1, h2, h3, ite11, ite01, if_true, if_false]
theorem gsX_X6_expression_20_q3 {NF : Nat} {n6 : Nat} {l4_6 : Int32} {v6 : Nat → Int32} {f6 : Nat → Nat → Int32} (h0 : ¬ (1600 ≤ l4_6)) (h1 : gsX_X6_joins_1 NF 1 (v6 2) v6 f6 = 0) : gsX_X6_expression_20_L6 NF (n6 + 1) l4_6 v6 f6 = (1, v6, f6) := by
  simp only [gsX_X6_expression_20_L6, if_neg h0, h1, ite11, ite01, if_true, if_false]
def gsX_X6_expression_19_L6 (NF : Nat) : Nat → (Int32) → (Nat → Int32) → (Nat → Nat → Int32) → Int32 × (Nat → Int32) × (Nat → Nat → Int32)
  | 0, _, _, _ => (0, (fun _ => 0), (fun _ _ => 0))
  | n6 + 1, l4_6, v6, f6 =>
    if 1600 ≤ l4_6 then
      (1, v6, f6)
    else
      if gsX_X6_joins_1 NF 0 (v6 2) v6 f6 = 1 then
        match gsX_X9_advance_1 NF v6 f6 with
        | (v12, f13) =>
          match gsX_X6_expression_20 NF v12 f13 with
          | (r14, v16, f17) =>
            if r14 = 1 then
              match gsX_X4_add_1 NF (v6 2) 0 v16 f17 with
              | (v20, f21) =>
                let t22 : Int32 := l4_6 + 1
                gsX_X6_expression_19_L6 NF n6 t22 v20 f21
            else
              (0, v16, f17)
      else
        (1, v6, f6)
def gsX_X6_expression_19 (NF : Nat) (v : Nat → Int32) (f : Nat → Nat → Int32) : Int32 × (Nat → Int32) × (Nat → Nat → Int32) :=
  match gsX_X6_expression_20 NF v f with
  | (r1, v3, f4) =>
    if r1 = 1 then
      gsX_X6_expression_19_L6 NF (4294967296 + NF) 0 v3 f4
    else
      (0, v3, f4)
theorem gsX_X6_expression_19_q4 {NF : Nat} {v : Nat → Int32} {f : Nat → Nat → Int32} {v3 : Nat → Int32} {f4 : Nat → Nat → Int32} (h0 : gsX_X6_expression_20 NF v f = (1, v3, f4)) : gsX_X6_expression_19 NF v f = gsX_X6_expression_19_L6 NF (4294967296 + NF) 0 v3 f4 := by
  simp only [gsX_X6_expression_19, h0, ite11, ite01, if_true, if_false]
theorem gsX_X6_expression_19_q5 {NF : Nat} {v : Nat → Int32} {f : Nat → Nat → Int32} {v3 : Nat → Int32} {f4 : Nat → Nat → Int32} (h0 : gsX_X6_expression_20 NF v f = (0, v3, f4)) : gsX_X6_expression_19 NF v f = (0, v3, f4) := by
  simp only [gsX_X6_expression_19, h0, ite11, ite01, if_true, if_false]
theorem gsX_X6_expression_19_q0 {NF : Nat} {n6 : Nat} {l4_6 : Int32} {v6 : Nat → Int32} {f6 : Nat → Nat → Int32} (h0 : (1600 ≤ l4_6)) : gsX_X6_expression_19_L6 NF (n6 + 1) l4_6 v6 f6 = (1, v6, f6) := by
  simp only [gsX_X6_expression_19_L6, if_pos h0]
theorem gsX_X6_expression_19_q1 {NF : Nat} {n6 : Nat} {l4_6 : Int32} {v6 : Nat → Int32} {f6 : Nat → Nat → Int32} {v12 : Nat → Int32} {f13 : Nat → Nat → Int32} {v16 : Nat → Int32} {f17 : Nat → Nat → Int32} {v20 : Nat → Int32} {f21 : Nat → Nat → Int32} {t22 : Int32} (h0 : ¬ (1600 ≤ l4_6)) (h1 : gsX_X6_joins_1 NF 0 (v6 2) v6 f6 = 1) (h2 : gsX_X9_advance_1 NF v6 f6 = (v12, f13)) (h3 : gsX_X6_expression_20 NF v12 f13 = (1, v16, f17)) (h5 : gsX_X4_add_1 NF (v6 2) 0 v16 f17 = (v20, f21)) (h6 : t22 = l4_6 + 1) : gsX_X6_expression_19_L6 NF (n6 + 1) l4_6 v6 f6 = gsX_X6_expression_19_L6 NF n6 t22 v20 f21 := by
  subst h6
  simp only [gsX_X6_expression_19_L6, if_neg h0, h1, h2, h3, h5, ite11, ite01, if_true, if_false]
theorem gsX_X6_expression_19_q2 {NF : Nat} {n6 : Nat} {l4_6 : Int32} {v6 : Nat → Int32} {f6 : Nat → Nat → Int32} {v12 : Nat → Int32} {f13 : Nat → Nat → Int32} {v16 : Nat → Int32} {f17 : Nat → Nat → Int32} (h0 : ¬ (1600 ≤ l4_6)) (h1 : gsX_X6_joins_1 NF 0 (v6 2) v6 f6 = 1) (h2 : gsX_X9_advance_1 NF v6 f6 = (v12, f13)) (h3 : gsX_X6_expression_20 NF v12 f13 = (0, v16, f17)) : gsX_X6_expression_19_L6 NF (n6 + 1) l4_6 v6 f6 = (0, v16, f17) := by
  simp only [gsX_X6_expression_19_L6, if_neg h0, h1, h2, h3, ite11, ite01, if_true, if_false]
theorem gsX_X6_expression_19_q3 {NF : Nat} {n6 : Nat} {l4_6 : Int32} {v6 : Nat → Int32} {f6 : Nat → Nat → Int32} (h0 : ¬ (1600 ≤ l4_6)) (h1 : gsX_X6_joins_1 NF 0 (v6 2) v6 f6 = 0) : gsX_X6_expression_19_L6 NF (n6 + 1) l4_6 v6 f6 = (1, v6, f6) := by
  simp only [gsX_X6_expression_19_L6, if_neg h0, h1, ite11, ite01, if_true, if_false]
def gsX_X6_unit_3 (NF : Nat) (v : Nat → Int32) (f : Nat → Nat → Int32) : Int32 × (Nat → Int32) × (Nat → Nat → Int32) :=
  if (v 2) = 2 then
    if (v 17) < 30 then
      match gsX_X4_add_1 NF (v 2) (v 5) v f with
      | (v4, f5) =>
        let t6 : Int32 := (v4 17) + 1
        match gsX_X9_advance_1 NF (upd v4 17 t6) f5 with
        | (v8, f9) =>
          (1, v8, f9)
    else
      match gsX_X6_refuse_1 NF v f with
      | (r10, v12, f13) =>
        if r10 = 1 then
          (1, v12, f13)
        else
          (0, v12, f13)
  else
    if (v 2) < 116 then
      if (v 2) = 40 then
        if (v 17) < 30 then
          let t23 : Int32 := (v 17) + 1
          match gsX_X9_advance_1 NF (upd v 17 t23) f with
          | (v26, f27) =>
            match stk NF (gsX_X6_expression_19 NF v26 f27) with
            | (r28, v30, f31) =>
              if r28 = 1 then
                match gsX_X6_taken_1 NF 41 v30 f31 with
                | (r33, v35, f36) =>
                  if r33 = 1 then
                    (1, v35, f36)
                  else
                    (0, v35, f36)
              else
                (0, v30, f31)
        else
          match gsX_X6_refuse_1 NF v f with
          | (r38, v40, f41) =>
            if r38 = 1 then
              (1, v40, f41)
            else
              (0, v40, f41)
      else
        match gsX_X6_refuse_1 NF v f with
        | (r17, v19, f20) =>
          if r17 = 1 then
            (1, v19, f20)
          else
            (0, v19, f20)
    else
      if 121 < (v 2) then
        if (v 2) = 40 then
          if (v 17) < 30 then
            let t51 : Int32 := (v 17) + 1
            match gsX_X9_advance_1 NF (upd v 17 t51) f with
            | (v54, f55) =>
              match stk NF (gsX_X6_expression_19 NF v54 f55) with
              | (r56, v58, f59) =>
                if r56 = 1 then
                  match gsX_X6_taken_1 NF 41 v58 f59 with
                  | (r61, v63, f64) =>
                    if r61 = 1 then
                      (1, v63, f64)
                    else
                      (0, v63, f64)
                else
                  (0, v58, f59)
          else
            match gsX_X6_refuse_1 NF v f with
            | (r66, v68, f69) =>
              if r66 = 1 then
                (1, v68, f69)
              else
                (0, v68, f69)
        else
          match gsX_X6_refuse_1 NF v f with
          | (r45, v47, f48) =>
            if r45 = 1 then
              (1, v47, f48)
            else
              (0, v47, f48)
      else
        if (v 17) < 30 then
          match gsX_X4_add_1 NF (v 2) (v 5) v f with
          | (v73, f74) =>
            let t75 : Int32 := (v73 17) + 1
            match gsX_X9_advance_1 NF (upd v73 17 t75) f74 with
            | (v77, f78) =>
              (1, v77, f78)
        else
          match gsX_X6_refuse_1 NF v f with
          | (r79, v81, f82) =>
            if r79 = 1 then
              (1, v81, f82)
            else
              (0, v81, f82)
theorem gsX_X6_unit_3_q0 {NF : Nat} {v : Nat → Int32} {f : Nat → Nat → Int32} {v4 : Nat → Int32} {f5 : Nat → Nat → Int32} {t6 : Int32} {v8 : Nat → Int32} {f9 : Nat → Nat → Int32} (h0 : ((v 2) = 2)) (h1 : ((v 17) < 30)) (h2 : gsX_X4_add_1 NF (v 2) (v 5) v f = (v4, f5)) (h3 : t6 = (v4 17) + 1) (h4 : gsX_X9_advance_1 NF (upd v4 17 t6) f5 = (v8, f9)) : gsX_X6_unit_3 NF v f = (1, v8, f9) := by
  subst h3
  simp only [gsX_X6_unit_3, stk_eq, if_pos h0, if_pos h1, h2, h4]
theorem gsX_X6_unit_3_q1 {NF : Nat} {v : Nat → Int32} {f : Nat → Nat → Int32} {v12 : Nat → Int32} {f13 : Nat → Nat → Int32} (h0 : ((v 2) = 2)) (h1 : ¬ ((v 17) < 30)) (h2 : gsX_X6_refuse_1 NF v f = (1, v12, f13)) : gsX_X6_unit_3 NF v f = (1, v12, f13) := by
  simp only [gsX_X6_unit_3, stk_eq, if_pos h0, if_neg h1, h2, ite11, ite01, if_true, if_false]
theorem gsX_X6_unit_3_q2 {NF : Nat} {v : Nat → Int32} {f : Nat → Nat → Int32} {v12 : Nat → Int32} {f13 : Nat → Nat → Int32} (h0 : ((v 2) = 2)) (h1 : ¬ ((v 17) < 30)) (h2 : gsX_X6_refuse_1 NF v f = (0, v12, f13)) : gsX_X6_unit_3 NF v f = (0, v12, f13) := by
  simp only [gsX_X6_unit_3, stk_eq, if_pos h0, if_neg h1, h2, ite11, ite01, if_true, if_false]
theorem gsX_X6_unit_3_q3 {NF : Nat} {v : Nat → Int32} {f : Nat → Nat → Int32} {v19 : Nat → Int32} {f20 : Nat → Nat → Int32} (h0 : ¬ ((v 2) = 2)) (h1 : ((v 2) < 116)) (h2 : ¬ ((v 2) = 40)) (h3 : gsX_X6_refuse_1 NF v f = (1, v19, f20)) : gsX_X6_unit_3 NF v f = (1, v19, f20) := by
  simp only [gsX_X6_unit_3, stk_eq, if_neg h0, if_pos h1, if_neg h2, h3, ite11, ite01, if_true, if_false]
theorem gsX_X6_unit_3_q4 {NF : Nat} {v : Nat → Int32} {f : Nat → Nat → Int32} {v19 : Nat → Int32} {f20 : Nat → Nat → Int32} (h0 : ¬ ((v 2) = 2)) (h1 : ((v 2) < 116)) (h2 : ¬ ((v 2) = 40)) (h3 : gsX_X6_refuse_1 NF v f = (0, v19, f20)) : gsX_X6_unit_3 NF v f = (0, v19, f20) := by
  simp only [gsX_X6_unit_3, stk_eq, if_neg h0, if_pos h1, if_neg h2, h3, ite11, ite01, if_true, if_false]
theorem gsX_X6_unit_3_q5 {NF : Nat} {v : Nat → Int32} {f : Nat → Nat → Int32} {t23 : Int32} {v26 : Nat → Int32} {f27 : Nat → Nat → Int32} {v30 : Nat → Int32} {f31 : Nat → Nat → Int32} {v35 : Nat → Int32} {f36 : Nat → Nat → Int32} (h0 : ¬ ((v 2) = 2)) (h1 : ((v 2) < 116)) (h2 : ((v 2) = 40)) (h3 : ((v 17) < 30)) (h4 : t23 = (v 17) + 1) (h5 : gsX_X9_advance_1 NF (upd v 17 t23) f = (v26, f27)) (h6 : gsX_X6_expression_19 NF v26 f27 = (1, v30, f31)) (h8 : gsX_X6_taken_1 NF 41 v30 f31 = (1, v35, f36)) : gsX_X6_unit_3 NF v f = (1, v35, f36) := by
  subst h4
  simp only [gsX_X6_unit_3, stk_eq, if_neg h0, if_pos h1, if_pos h2, if_pos h3, h5, h6, h8, ite11, ite01, if_true, if_false]
theorem gsX_X6_unit_3_q6 {NF : Nat} {v : Nat → Int32} {f : Nat → Nat → Int32} {t23 : Int32} {v26 : Nat → Int32} {f27 : Nat → Nat → Int32} {v30 : Nat → Int32} {f31 : Nat → Nat → Int32} {v35 : Nat → Int32} {f36 : Nat → Nat → Int32} (h0 : ¬ ((v 2) = 2)) (h1 : ((v 2) < 116)) (h2 : ((v 2) = 40)) (h3 : ((v 17) < 30)) (h4 : t23 = (v 17) + 1) (h5 : gsX_X9_advance_1 NF (upd v 17 t23) f = (v26, f27)) (h6 : gsX_X6_expression_19 NF v26 f27 = (1, v30, f31)) (h8 : gsX_X6_taken_1 NF 41 v30 f31 = (0, v35, f36)) : gsX_X6_unit_3 NF v f = (0, v35, f36) := by
  subst h4
  simp only [gsX_X6_unit_3, stk_eq, if_neg h0, if_pos h1, if_pos h2, if_pos h3, h5, h6, h8, ite11, ite01, if_true, if_false]
theorem gsX_X6_unit_3_q7 {NF : Nat} {v : Nat → Int32} {f : Nat → Nat → Int32} {t23 : Int32} {v26 : Nat → Int32} {f27 : Nat → Nat → Int32} {v30 : Nat → Int32} {f31 : Nat → Nat → Int32} (h0 : ¬ ((v 2) = 2)) (h1 : ((v 2) < 116)) (h2 : ((v 2) = 40)) (h3 : ((v 17) < 30)) (h4 : t23 = (v 17) + 1) (h5 : gsX_X9_advance_1 NF (upd v 17 t23) f = (v26, f27)) (h6 : gsX_X6_expression_19 NF v26 f27 = (0, v30, f31)) : gsX_X6_unit_3 NF v f = (0, v30, f31) := by
  subst h4
  simp only [gsX_X6_unit_3, stk_eq, if_neg h0, if_pos h1, if_pos h2, if_pos h3, h5, h6, ite11, ite01, if_true, if_false]
theorem gsX_X6_unit_3_q8 {NF : Nat} {v : Nat → Int32} {f : Nat → Nat → Int32} {v40 : Nat → Int32} {f41 : Nat → Nat → Int32} (h0 : ¬ ((v 2) = 2)) (h1 : ((v 2) < 116)) (h2 : ((v 2) = 40)) (h3 : ¬ ((v 17) < 30)) (h4 : gsX_X6_refuse_1 NF v f = (1, v40, f41)) : gsX_X6_unit_3 NF v f = (1, v40, f41) := by
  simp only [gsX_X6_unit_3, stk_eq, if_neg h0, if_pos h1, if_pos h2, if_neg h3, h4, ite11, ite01, if_true, if_false]
theorem gsX_X6_unit_3_q9 {NF : Nat} {v : Nat → Int32} {f : Nat → Nat → Int32} {v40 : Nat → Int32} {f41 : Nat → Nat → Int32} (h0 : ¬ ((v 2) = 2)) (h1 : ((v 2) < 116)) (h2 : ((v 2) = 40)) (h3 : ¬ ((v 17) < 30)) (h4 : gsX_X6_refuse_1 NF v f = (0, v40, f41)) : gsX_X6_unit_3 NF v f = (0, v40, f41) := by
  simp only [gsX_X6_unit_3, stk_eq, if_neg h0, if_pos h1, if_pos h2, if_neg h3, h4, ite11, ite01, if_true, if_false]
theorem gsX_X6_unit_3_q10 {NF : Nat} {v : Nat → Int32} {f : Nat → Nat → Int32} {v47 : Nat → Int32} {f48 : Nat → Nat → Int32} (h0 : ¬ ((v 2) = 2)) (h1 : ¬ ((v 2) < 116)) (h2 : (121 < (v 2))) (h3 : ¬ ((v 2) = 40)) (h4 : gsX_X6_refuse_1 NF v f = (1, v47, f48)) : gsX_X6_unit_3 NF v f = (1, v47, f48) := by
  simp only [gsX_X6_unit_3, stk_eq, if_neg h0, if_neg h1, if_pos h2, if_neg h3, h4, ite11, ite01, if_true, if_false]
theorem gsX_X6_unit_3_q11 {NF : Nat} {v : Nat → Int32} {f : Nat → Nat → Int32} {v47 : Nat → Int32} {f48 : Nat → Nat → Int32} (h0 : ¬ ((v 2) = 2)) (h1 : ¬ ((v 2) < 116)) (h2 : (121 < (v 2))) (h3 : ¬ ((v 2) = 40)) (h4 : gsX_X6_refuse_1 NF v f = (0, v47, f48)) : gsX_X6_unit_3 NF v f = (0, v47, f48) := by
  simp only [gsX_X6_unit_3, stk_eq, if_neg h0, if_neg h1, if_pos h2, if_neg h3, h4, ite11, ite01, if_true, if_false]
theorem gsX_X6_unit_3_q12 {NF : Nat} {v : Nat → Int32} {f : Nat → Nat → Int32} {t51 : Int32} {v54 : Nat → Int32} {f55 : Nat → Nat → Int32} {v58 : Nat → Int32} {f59 : Nat → Nat → Int32} {v63 : Nat → Int32} {f64 : Nat → Nat → Int32} (h0 : ¬ ((v 2) = 2)) (h1 : ¬ ((v 2) < 116)) (h2 : (121 < (v 2))) (h3 : ((v 2) = 40)) (h4 : ((v 17) < 30)) (h5 : t51 = (v 17) + 1) (h6 : gsX_X9_advance_1 NF (upd v 17 t51) f = (v54, f55)) (h7 : gsX_X6_expression_19 NF v54 f55 = (1, v58, f59)) (h9 : gsX_X6_taken_1 NF 41 v58 f59 = (1, v63, f64)) : gsX_X6_unit_3 NF v f = (1, v63, f64) := by
  subst h5
  simp only [gsX_X6_unit_3, stk_eq, if_neg h0, if_neg h1, if_pos h2, if_pos h3, if_pos h4, h6, h7, h9, ite11, ite01, if_true, if_false]
theorem gsX_X6_unit_3_q13 {NF : Nat} {v : Nat → Int32} {f : Nat → Nat → Int32} {t51 : Int32} {v54 : Nat → Int32} {f55 : Nat → Nat → Int32} {v58 : Nat → Int32} {f59 : Nat → Nat → Int32} {v63 : Nat → Int32} {f64 : Nat → Nat → Int32} (h0 : ¬ ((v 2) = 2)) (h1 : ¬ ((v 2) < 116)) (h2 : (121 < (v 2))) (h3 : ((v 2) = 40)) (h4 : ((v 17) < 30)) (h5 : t51 = (v 17) + 1) (h6 : gsX_X9_advance_1 NF (upd v 17 t51) f = (v54, f55)) (h7 : gsX_X6_expression_19 NF v54 f55 = (1, v58, f59)) (h9 : gsX_X6_taken_1 NF 41 v58 f59 = (0, v63, f64)) : gsX_X6_unit_3 NF v f = (0, v63, f64) := by
  subst h5
  simp only [gsX_X6_unit_3, stk_eq, if_neg h0, if_neg h1, if_pos h2, if_pos h3, if_pos h4, h6, h7, h9, ite11, ite01, if_true, if_false]
theorem gsX_X6_unit_3_q14 {NF : Nat} {v : Nat → Int32} {f : Nat → Nat → Int32} {t51 : Int32} {v54 : Nat → Int32} {f55 : Nat → Nat → Int32} {v58 : Nat → Int32} {f59 : Nat → Nat → Int32} (h0 : ¬ ((v 2) = 2)) (h1 : ¬ ((v 2) < 116)) (h2 : (121 < (v 2))) (h3 : ((v 2) = 40)) (h4 : ((v 17) < 30)) (h5 : t51 = (v 17) + 1) (h6 : gsX_X9_advance_1 NF (upd v 17 t51) f = (v54, f55)) (h7 : gsX_X6_expression_19 NF v54 f55 = (0, v58, f59)) : gsX_X6_unit_3 NF v f = (0, v58, f59) := by
  subst h5
  simp only [gsX_X6_unit_3, stk_eq, if_neg h0, if_neg h1, if_pos h2, if_pos h3, if_pos h4, h6, h7, ite11, ite01, if_true, if_false]
theorem gsX_X6_unit_3_q15 {NF : Nat} {v : Nat → Int32} {f : Nat → Nat → Int32} {v68 : Nat → Int32} {f69 : Nat → Nat → Int32} (h0 : ¬ ((v 2) = 2)) (h1 : ¬ ((v 2) < 116)) (h2 : (121 < (v 2))) (h3 : ((v 2) = 40)) (h4 : ¬ ((v 17) < 30)) (h5 : gsX_X6_refuse_1 NF v f = (1, v68, f69)) : gsX_X6_unit_3 NF v f = (1, v68, f69) := by
  simp only [gsX_X6_unit_3, stk_eq, if_neg h0, if_neg h1, if_pos h2, if_pos h3, if_neg h4, h5, ite11, ite01, if_true, if_false]
theorem gsX_X6_unit_3_q16 {NF : Nat} {v : Nat → Int32} {f : Nat → Nat → Int32} {v68 : Nat → Int32} {f69 : Nat → Nat → Int32} (h0 : ¬ ((v 2) = 2)) (h1 : ¬ ((v 2) < 116)) (h2 : (121 < (v 2))) (h3 : ((v 2) = 40)) (h4 : ¬ ((v 17) < 30)) (h5 : gsX_X6_refuse_1 NF v f = (0, v68, f69)) : gsX_X6_unit_3 NF v f = (0, v68, f69) := by
  simp only [gsX_X6_unit_3, stk_eq, if_neg h0, if_neg h1, if_pos h2, if_pos h3, if_neg h4, h5, ite11, ite01, if_true, if_false]
theorem gsX_X6_unit_3_q17 {NF : Nat} {v : Nat → Int32} {f : Nat → Nat → Int32} {v73 : Nat → Int32} {f74 : Nat → Nat → Int32} {t75 : Int32} {v77 : Nat → Int32} {f78 : Nat → Nat → Int32} (h0 : ¬ ((v 2) = 2)) (h1 : ¬ ((v 2) < 116)) (h2 : ¬ (121 < (v 2))) (h3 : ((v 17) < 30)) (h4 : gsX_X4_add_1 NF (v 2) (v 5) v f = (v73, f74)) (h5 : t75 = (v73 17) + 1) (h6 : gsX_X9_advance_1 NF (upd v73 17 t75) f74 = (v77, f78)) : gsX_X6_unit_3 NF v f = (1, v77, f78) := by
  subst h5
  simp only [gsX_X6_unit_3, stk_eq, if_neg h0, if_neg h1, if_neg h2, if_pos h3, h4, h6]
theorem gsX_X6_unit_3_q18 {NF : Nat} {v : Nat → Int32} {f : Nat → Nat → Int32} {v81 : Nat → Int32} {f82 : Nat → Nat → Int32} (h0 : ¬ ((v 2) = 2)) (h1 : ¬ ((v 2) < 116)) (h2 : ¬ (121 < (v 2))) (h3 : ¬ ((v 17) < 30)) (h4 : gsX_X6_refuse_1 NF v f = (1, v81, f82)) : gsX_X6_unit_3 NF v f = (1, v81, f82) := by
  simp only [gsX_X6_unit_3, stk_eq, if_neg h0, if_neg h1, if_neg h2, if_neg h3, h4, ite11, ite01, if_true, if_false]
theorem gsX_X6_unit_3_q19 {NF : Nat} {v : Nat → Int32} {f : Nat → Nat → Int32} {v81 : Nat → Int32} {f82 : Nat → Nat → Int32} (h0 : ¬ ((v 2) = 2)) (h1 : ¬ ((v 2) < 116)) (h2 : ¬ (121 < (v 2))) (h3 : ¬ ((v 17) < 30)) (h4 : gsX_X6_refuse_1 NF v f = (0, v81, f82)) : gsX_X6_unit_3 NF v f = (0, v81, f82) := by
  simp only [gsX_X6_unit_3, stk_eq, if_neg h0, if_neg h1, if_neg h2, if_neg h3, h4, ite11, ite01, if_true, if_false]
