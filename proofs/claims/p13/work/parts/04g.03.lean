def gsX_X6_numbered_1 (NF : Nat) (p1 : Int32) (v : Nat → Int32) (f : Nat → Nat → Int32) : Int32 × (Nat → Int32) × (Nat → Nat → Int32) :=
  if (v 2) = 2 then
    if (v 5) ≤ p1 then
      match gsX_X9_advance_1 NF v f with
      | (v6, f7) =>
        ((v 5), v6, f7)
    else
      match gsX_X6_refuseAs_1 NF 4 v f with
      | (r10, v12, f13) =>
        if r10 = 1 then
          ((-1), v12, f13)
        else
          ((-1), v12, f13)
  else
    match gsX_X6_refuse_1 NF v f with
    | (r15, v17, f18) =>
      if r15 = 1 then
        ((-1), v17, f18)
      else
        ((-1), v17, f18)
theorem gsX_X6_numbered_1_q0 {NF : Nat} {p1 : Int32} {v : Nat → Int32} {f : Nat → Nat → Int32} {v6 : Nat → Int32} {f7 : Nat → Nat → Int32} (h0 : ((v 2) = 2)) (h1 : ((v 5) ≤ p1)) (h2 : gsX_X9_advance_1 NF v f = (v6, f7)) : gsX_X6_numbered_1 NF p1 v f = ((v 5), v6, f7) := by
  simp only [gsX_X6_numbered_1, if_pos h0, if_pos h1, h2]
theorem gsX_X6_numbered_1_q1 {NF : Nat} {p1 : Int32} {v : Nat → Int32} {f : Nat → Nat → Int32} {v12 : Nat → Int32} {f13 : Nat → Nat → Int32} (h0 : ((v 2) = 2)) (h1 : ¬ ((v 5) ≤ p1)) (h2 : gsX_X6_refuseAs_1 NF 4 v f = (1, v12, f13)) : gsX_X6_numbered_1 NF p1 v f = ((-1), v12, f13) := by
  simp only [gsX_X6_numbered_1, if_pos h0, if_neg h1, h2, ite11, ite01, if_true, if_false]
theorem gsX_X6_numbered_1_q2 {NF : Nat} {p1 : Int32} {v : Nat → Int32} {f : Nat → Nat → Int32} {v12 : Nat → Int32} {f13 : Nat → Nat → Int32} (h0 : ((v 2) = 2)) (h1 : ¬ ((v 5) ≤ p1)) (h2 : gsX_X6_refuseAs_1 NF 4 v f = (0, v12, f13)) : gsX_X6_numbered_1 NF p1 v f = ((-1), v12, f13) := by
  simp only [gsX_X6_numbered_1, if_pos h0, if_neg h1, h2, ite11, ite01, if_true, if_false]
theorem gsX_X6_numbered_1_q3 {NF : Nat} {p1 : Int32} {v : Nat → Int32} {f : Nat → Nat → Int32} {v17 : Nat → Int32} {f18 : Nat → Nat → Int32} (h0 : ¬ ((v 2) = 2)) (h1 : gsX_X6_refuse_1 NF v f = (1, v17, f18)) : gsX_X6_numbered_1 NF p1 v f = ((-1), v17, f18) := by
  simp only [gsX_X6_numbered_1, if_neg h0, h1, ite11, ite01, if_true, if_false]
theorem gsX_X6_numbered_1_q4 {NF : Nat} {p1 : Int32} {v : Nat → Int32} {f : Nat → Nat → Int32} {v17 : Nat → Int32} {f18 : Nat → Nat → Int32} (h0 : ¬ ((v 2) = 2)) (h1 : gsX_X6_refuse_1 NF v f = (0, v17, f18)) : gsX_X6_numbered_1 NF p1 v f = ((-1), v17, f18) := by
  simp only [gsX_X6_numbered_1, if_neg h0, h1, ite11, ite01, if_true, if_false]
def gsX_X6_labelled_1 (NF : Nat) (p1 : Int32) (p2 : Int32) (v : Nat → Int32) (f : Nat → Nat → Int32) : Int32 × (Nat → Int32) × (Nat → Nat → Int32) :=
  if (v 2) = p1 then
    match gsX_X9_advance_1 NF v f with
    | (v5, f6) =>
      match gsX_X6_numbered_1 NF p2 v5 f6 with
      | (r7, v9, f10) =>
        (r7, v9, f10)
  else
    match gsX_X6_refuse_1 NF v f with
    | (r13, v15, f16) =>
      if r13 = 1 then
        ((-1), v15, f16)
      else
        ((-1), v15, f16)
theorem gsX_X6_labelled_1_q0 {NF : Nat} {p1 : Int32} {p2 : Int32} {v : Nat → Int32} {f : Nat → Nat → Int32} {v5 : Nat → Int32} {f6 : Nat → Nat → Int32} {r7 : Int32} {v9 : Nat → Int32} {f10 : Nat → Nat → Int32} (h0 : ((v 2) = p1)) (h1 : gsX_X9_advance_1 NF v f = (v5, f6)) (h2 : gsX_X6_numbered_1 NF p2 v5 f6 = (r7, v9, f10)) : gsX_X6_labelled_1 NF p1 p2 v f = (r7, v9, f10) := by
  simp only [gsX_X6_labelled_1, if_pos h0, h1, h2]
theorem gsX_X6_labelled_1_q1 {NF : Nat} {p1 : Int32} {p2 : Int32} {v : Nat → Int32} {f : Nat → Nat → Int32} {v15 : Nat → Int32} {f16 : Nat → Nat → Int32} (h0 : ¬ ((v 2) = p1)) (h1 : gsX_X6_refuse_1 NF v f = (1, v15, f16)) : gsX_X6_labelled_1 NF p1 p2 v f = ((-1), v15, f16) := by
  simp only [gsX_X6_labelled_1, if_neg h0, h1, ite11, ite01, if_true, if_false]
theorem gsX_X6_labelled_1_q2 {NF : Nat} {p1 : Int32} {p2 : Int32} {v : Nat → Int32} {f : Nat → Nat → Int32} {v15 : Nat → Int32} {f16 : Nat → Nat → Int32} (h0 : ¬ ((v 2) = p1)) (h1 : gsX_X6_refuse_1 NF v f = (0, v15, f16)) : gsX_X6_labelled_1 NF p1 p2 v f = ((-1), v15, f16) := by
  simp only [gsX_X6_labelled_1, if_neg h0, h1, ite11, ite01, if_true, if_false]
def gsX_X7_addMan_1 (NF : Nat) (p1 : Int32) (p2 : Int32) (p3 : Int32) (v : Nat → Int32) (f : Nat → Nat → Int32) : (Nat → Int32) × (Nat → Nat → Int32) :=
  if 6 ≤ (v 9) then
    (v, f)
  else
    let t2 : Int32 := 0 + (v 9)
    let f4 : Nat → Nat → Int32 := upd2 f 1 (upd (f 1) t2.toNatClampNeg p1)
    let t5 : Int32 := 6 + (v 9)
    let f6 : Nat → Nat → Int32 := upd2 f4 1 (upd (f4 1) t5.toNatClampNeg p2)
    let t7 : Int32 := 12 + (v 9)
    let f8 : Nat → Nat → Int32 := upd2 f6 1 (upd (f6 1) t7.toNatClampNeg p3)
    let t9 : Int32 := (v 9) + 1
    ((upd v 9 t9), f8)
theorem gsX_X7_addMan_1_q0 {NF : Nat} {p1 : Int32} {p2 : Int32} {p3 : Int32} {v : Nat → Int32} {f : Nat → Nat → Int32} (h0 : (6 ≤ (v 9))) : gsX_X7_addMan_1 NF p1 p2 p3 v f = (v, f) := by
  simp only [gsX_X7_addMan_1, if_pos h0]
theorem gsX_X7_addMan_1_q1 {NF : Nat} {p1 : Int32} {p2 : Int32} {p3 : Int32} {v : Nat → Int32} {f : Nat → Nat → Int32} {t2 : Int32} {f4 : Nat → Nat → Int32} {t5 : Int32} {f6 : Nat → Nat → Int32} {t7 : Int32} {f8 : Nat → Nat → Int32} {t9 : Int32} (h0 : ¬ (6 ≤ (v 9))) (h1 : t2 = 0 + (v 9)) (h2 : f4 = upd2 f 1 (upd (f 1) t2.toNatClampNeg p1)) (h3 : t5 = 6 + (v 9)) (h4 : f6 = upd2 f4 1 (upd (f4 1) t5.toNatClampNeg p2)) (h5 : t7 = 12 + (v 9)) (h6 : f8 = upd2 f6 1 (upd (f6 1) t7.toNatClampNeg p3)) (h7 : t9 = (v 9) + 1) : gsX_X7_addMan_1 NF p1 p2 p3 v f = ((upd v 9 t9), f8) := by
  subst h1 h2 h3 h4 h5 h6 h7
  simp only [gsX_X7_addMan_1, if_neg h0]
def gsX_X6_manLine_1 (NF : Nat) (v : Nat → Int32) (f : Nat → Nat → Int32) : Int32 × (Nat → Int32) × (Nat → Nat → Int32) :=
  if (v 9) < 6 then
    match gsX_X9_advance_1 NF v f with
    | (v3, f4) =>
      match gsX_X6_name_1 NF (v 9) v3 f4 with
      | (r5, v7, f8) =>
        if r5 = 1 then
          match gsX_X6_labelled_1 NF 109 99 v7 f8 with
          | (r10, v12, f13) =>
            if 0 ≤ r10 then
              match gsX_X6_labelled_1 NF 110 99 v12 f13 with
              | (r15, v17, f18) =>
                if 0 ≤ r15 then
                  if (v17 2) = 111 then
                    match gsX_X6_labelled_1 NF 111 9 v17 f18 with
                    | (r24, v26, f27) =>
                      if 0 ≤ r24 then
                        match gsX_X7_addMan_1 NF r10 r15 r24 v26 f27 with
                        | (v30, f31) =>
                          (1, v30, f31)
                      else
                        (0, v26, f27)
                  else
                    match gsX_X7_addMan_1 NF r10 r15 0 v17 f18 with
                    | (v22, f23) =>
                      (1, v22, f23)
                else
                  (0, v17, f18)
            else
              (0, v12, f13)
        else
          (0, v7, f8)
  else
    match gsX_X6_refuse_1 NF v f with
    | (r32, v34, f35) =>
      if r32 = 1 then
        (1, v34, f35)
      else
        (0, v34, f35)
theorem gsX_X6_manLine_1_q0 {NF : Nat} {v : Nat → Int32} {f : Nat → Nat → Int32} {v3 : Nat → Int32} {f4 : Nat → Nat → Int32} {v7 : Nat → Int32} {f8 : Nat → Nat → Int32} {r10 : Int32} {v12 : Nat → Int32} {f13 : Nat → Nat → Int32} {r15 : Int32} {v17 : Nat → Int32} {f18 : Nat → Nat → Int32} {v22 : Nat → Int32} {f23 : Nat → Nat → Int32} (h0 : ((v 9) < 6)) (h1 : gsX_X9_advance_1 NF v f = (v3, f4)) (h2 : gsX_X6_name_1 NF (v 9) v3 f4 = (1, v7, f8)) (h4 : gsX_X6_labelled_1 NF 109 99 v7 f8 = (r10, v12, f13)) (h5 : (0 ≤ r10)) (h6 : gsX_X6_labelled_1 NF 110 99 v12 f13 = (r15, v17, f18)) (h7 : (0 ≤ r15)) (h8 : ¬ ((v17 2) = 111)) (h9 : gsX_X7_addMan_1 NF r10 r15 0 v17 f18 = (v22, f23)) : gsX_X6_manLine_1 NF v f = (1, v22, f23) := by
  simp only [gsX_X6_manLine_1, if_pos h0, h1, h2, h4, if_pos h5, h6, if_pos h7, if_neg h8, h9, ite11, ite01, if_true, if_false]
theorem gsX_X6_manLine_1_q1 {NF : Nat} {v : Nat → Int32} {f : Nat → Nat → Int32} {v3 : Nat → Int32} {f4 : Nat → Nat → Int32} {v7 : Nat → Int32} {f8 : Nat → Nat → Int32} {r10 : Int32} {v12 : Nat → Int32} {f13 : Nat → Nat → Int32} {r15 : Int32} {v17 : Nat → Int32} {f18 : Nat → Nat → Int32} {r24 : Int32} {v26 : Nat → Int32} {f27 : Nat → Nat → Int32} {v30 : Nat → Int32} {f31 : Nat → Nat → Int32} (h0 : ((v 9) < 6)) (h1 : gsX_X9_advance_1 NF v f = (v3, f4)) (h2 : gsX_X6_name_1 NF (v 9) v3 f4 = (1, v7, f8)) (h4 : gsX_X6_labelled_1 NF 109 99 v7 f8 = (r10, v12, f13)) (h5 : (0 ≤ r10)) (h6 : gsX_X6_labelled_1 NF 110 99 v12 f13 = (r15, v17, f18)) (h7 : (0 ≤ r15)) (h8 : ((v17 2) = 111)) (h9 : gsX_X6_labelled_1 NF 111 9 v17 f18 = (r24, v26, f27)) (h10 : (0 ≤ r24)) (h11 : gsX_X7_addMan_1 NF r10 r15 r24 v26 f27 = (v30, f31)) : gsX_X6_manLine_1 NF v f = (1, v30, f31) := by
  simp only [gsX_X6_manLine_1, if_pos h0, h1, h2, h4, if_pos h5, h6, if_pos h7, if_pos h8, h9, if_pos h10, h11, ite11, ite01, if_true, if_false]
theorem gsX_X6_manLine_1_q2 {NF : Nat} {v : Nat → Int32} {f : Nat → Nat → Int32} {v3 : Nat → Int32} {f4 : Nat → Nat → Int32} {v7 : Nat → Int32} {f8 : Nat → Nat → Int32} {r10 : Int32} {v12 : Nat → Int32} {f13 : Nat → Nat → Int32} {r15 : Int32} {v17 : Nat → Int32} {f18 : Nat → Nat → Int32} {r24 : Int32} {v26 : Nat → Int32} {f27 : Nat → Nat → Int32} (h0 : ((v 9) < 6)) (h1 : gsX_X9_advance_1 NF v f = (v3, f4)) (h2 : gsX_X6_name_1 NF (v 9) v3 f4 = (1, v7, f8)) (h4 : gsX_X6_labelled_1 NF 109 99 v7 f8 = (r10, v12, f13)) (h5 : (0 ≤ r10)) (h6 : gsX_X6_labelled_1 NF 110 99 v12 f13 = (r15, v17, f18)) (h7 : (0 ≤ r15)) (h8 : ((v17 2) = 111)) (h9 : gsX_X6_labelled_1 NF 111 9 v17 f18 = (r24, v26, f27)) (h10 : ¬ (0 ≤ r24)) : gsX_X6_manLine_1 NF v f = (0, v26, f27) := by
  simp only [gsX_X6_manLine_1, if_pos h0, h1, h2, h4, if_pos h5, h6, if_pos h7, if_pos h8, h9, if_neg h10, ite11, ite01, if_true, if_false]
theorem gsX_X6_manLine_1_q3 {NF : Nat} {v : Nat → Int32} {f : Nat → Nat → Int32} {v3 : Nat → Int32} {f4 : Nat → Nat → Int32} {v7 : Nat → Int32} {f8 : Nat → Nat → Int32} {r10 : Int32} {v12 : Nat → Int32} {f13 : Nat → Nat → Int32} {r15 : Int32} {v17 : Nat → Int32} {f18 : Nat → Nat → Int32} (h0 : ((v 9) < 6)) (h1 : gsX_X9_advance_1 NF v f = (v3, f4)) (h2 : gsX_X6_name_1 NF (v 9) v3 f4 = (1, v7, f8)) (h4 : gsX_X6_labelled_1 NF 109 99 v7 f8 = (r10, v12, f13)) (h5 : (0 ≤ r10)) (h6 : gsX_X6_labelled_1 NF 110 99 v12 f13 = (r15, v17, f18)) (h7 : ¬ (0 ≤ r15)) : gsX_X6_manLine_1 NF v f = (0, v17, f18) := by
  simp only [gsX_X6_manLine_1, if_pos h0, h1, h2, h4, if_pos h5, h6, if_neg h7, ite11, ite01, if_true, if_false]
theorem gsX_X6_manLine_1_q4 {NF : Nat} {v : Nat → Int32} {f : Nat → Nat → Int32} {v3 : Nat → Int32} {f4 : Nat → Nat → Int32} {v7 : Nat → Int32} {f8 : Nat → Nat → Int32} {r10 : Int32} {v12 : Nat → Int32} {f13 : Nat → Nat → Int32} (h0 : ((v 9) < 6)) (h1 : gsX_X9_advance_1 NF v f = (v3, f4)) (h2 : gsX_X6_name_1 NF (v 9) v3 f4 = (1, v7, f8)) (h4 : gsX_X6_labelled_1 NF 109 99 v7 f8 = (r10, v12, f13)) (h5 : ¬ (0 ≤ r10)) : gsX_X6_manLine_1 NF v f = (0, v12, f13) := by
  simp only [gsX_X6_manLine_1, if_pos h0, h1, h2, h4, if_neg h5, ite11, ite01, if_true, if_false]
theorem gsX_X6_manLine_1_q5 {NF : Nat} {v : Nat → Int32} {f : Nat → Nat → Int32} {v3 : Nat → Int32} {f4 : Nat → Nat → Int32} {v7 : Nat → Int32} {f8 : Nat → Nat → Int32} (h0 : ((v 9) < 6)) (h1 : gsX_X9_advance_1 NF v f = (v3, f4)) (h2 : gsX_X6_name_1 NF (v 9) v3 f4 = (0, v7, f8)) : gsX_X6_manLine_1 NF v f = (0, v7, f8) := by
  simp only [gsX_X6_manLine_1, if_pos h0, h1, h2, ite11, ite01, if_true, if_false]
theorem gsX_X6_manLine_1_q6 {NF : Nat} {v : Nat → Int32} {f : Nat → Nat → Int32} {v34 : Nat → Int32} {f35 : Nat → Nat → Int32} (h0 : ¬ ((v 9) < 6)) (h1 : gsX_X6_refuse_1 NF v f = (1, v34, f35)) : gsX_X6_manLine_1 NF v f = (1, v34, f35) := by
  simp only [gsX_X6_manLine_1, if_neg h0, h1, ite11, ite01, if_true, if_false]
theorem gsX_X6_manLine_1_q7 {NF : Nat} {v : Nat → Int32} {f : Nat → Nat → Int32} {v34 : Nat → Int32} {f35 : Nat → Nat → Int32} (h0 : ¬ ((v 9) < 6)) (h1 : gsX_X6_refuse_1 NF v f = (0, v34, f35)) : gsX_X6_manLine_1 NF v f = (0, v34, f35) := by
  simp only [gsX_X6_manLine_1, if_neg h0, h1, ite11, ite01, if_true, if_false]
def gsX_X6_taken_1 (NF : Nat) (p1 : Int32) (v : Nat → Int32) (f : Nat → Nat → Int32) : Int32 × (Nat → Int32) × (Nat → Nat → Int32) :=
  if (v 2) = p1 then
    match gsX_X9_advance_1 NF v f with
    | (v5, f6) =>
      (1, v5, f6)
  else
    match gsX_X6_refuse_1 NF v f with
    | (r9, v11, f12) =>
      if r9 = 1 then
        (1, v11, f12)
      else
        (0, v11, f12)
theorem gsX_X6_taken_1_q0 {NF : Nat} {p1 : Int32} {v : Nat → Int32} {f : Nat → Nat → Int32} {v5 : Nat → Int32} {f6 : Nat → Nat → Int32} (h0 : ((v 2) = p1)) (h1 : gsX_X9_advance_1 NF v f = (v5, f6)) : gsX_X6_taken_1 NF p1 v f = (1, v5, f6) := by
  simp only [gsX_X6_taken_1, if_pos h0, h1]
theorem gsX_X6_taken_1_q1 {NF : Nat} {p1 : Int32} {v : Nat → Int32} {f : Nat → Nat → Int32} {v11 : Nat → Int32} {f12 : Nat → Nat → Int32} (h0 : ¬ ((v 2) = p1)) (h1 : gsX_X6_refuse_1 NF v f = (1, v11, f12)) : gsX_X6_taken_1 NF p1 v f = (1, v11, f12) := by
  simp only [gsX_X6_taken_1, if_neg h0, h1, ite11, ite01, if_true, if_false]
theorem gsX_X6_taken_1_q2 {NF : Nat} {p1 : Int32} {v : Nat → Int32} {f : Nat → Nat → Int32} {v11 : Nat → Int32} {f12 : Nat → Nat → Int32} (h0 : ¬ ((v 2) = p1)) (h1 : gsX_X6_refuse_1 NF v f = (0, v11, f12)) : gsX_X6_taken_1 NF p1 v f = (0, v11, f12) := by
  simp only [gsX_X6_taken_1, if_neg h0, h1, ite11, ite01, if_true, if_false]
def gsX_X6_closing_1 (NF : Nat) (v : Nat → Int32) (f : Nat → Nat → Int32) : Int32 × (Nat → Int32) × (Nat → Nat → Int32) :=
  match gsX_X6_taken_1 NF 59 v f with
  | (r1, v3, f4) =>
    if r1 = 1 then
      (1, v3, f4)
    else
      (0, v3, f4)
theorem gsX_X6_closing_1_q0 {NF : Nat} {v : Nat → Int32} {f : Nat → Nat → Int32} {v3 : Nat → Int32} {f4 : Nat → Nat → Int32} (h0 : gsX_X6_taken_1 NF 59 v f = (1, v3, f4)) : gsX_X6_closing_1 NF v f = (1, v3, f4) := by
  simp only [gsX_X6_closing_1, h0, ite11, ite01, if_true, if_false]
theorem gsX_X6_closing_1_q1 {NF : Nat} {v : Nat → Int32} {f : Nat → Nat → Int32} {v3 : Nat → Int32} {f4 : Nat → Nat → Int32} (h0 : gsX_X6_taken_1 NF 59 v f = (0, v3, f4)) : gsX_X6_closing_1 NF v f = (0, v3, f4) := by
  simp only [gsX_X6_closing_1, h0, ite11, ite01, if_true, if_false]
def gsX_X6_name_2_L2 (NF : Nat) (p2 : Int32) : Nat → (Int32) → (Nat → Int32) → (Nat → Nat → Int32) → Int32 × (Nat → Int32) × (Nat → Nat → Int32)
  | 0, _, _, _ => (0, (fun _ => 0), (fun _ _ => 0))
  | n2 + 1, l3_2, v2, f2 =>
    if p2 ≤ l3_2 then
      if p2 < 0 then
        match gsX_X9_advance_1 NF v2 f2 with
        | (v8, f9) =>
          (1, v8, f9)
      else
        if 6 ≤ p2 then
          match gsX_X9_advance_1 NF v2 f2 with
          | (v12, f13) =>
            (1, v12, f13)
        else
          let f14 : Nat → Nat → Int32 := upd2 f2 8 (upd (f2 8) p2.toNatClampNeg (v2 3))
          match gsX_X9_advance_1 NF v2 f14 with
          | (v16, f17) =>
            (1, v16, f17)
    else
      if 6 ≤ l3_2 then
        if p2 < 0 then
          match gsX_X9_advance_1 NF v2 f2 with
          | (v23, f24) =>
            (1, v23, f24)
        else
          if 6 ≤ p2 then
            match gsX_X9_advance_1 NF v2 f2 with
            | (v27, f28) =>
              (1, v27, f28)
          else
            let f29 : Nat → Nat → Int32 := upd2 f2 8 (upd (f2 8) p2.toNatClampNeg (v2 3))
            match gsX_X9_advance_1 NF v2 f29 with
            | (v31, f32) =>
              (1, v31, f32)
      else
        let t33 : Int32 := f2 8 (l3_2).toNatClampNeg
        if gsX_X9_sameWord_1 NF t33 (v2 3) v2 f2 = 1 then
          match gsX_X6_refuseAs_1 NF 3 v2 f2 with
          | (r37, v39, f40) =>
            if r37 = 1 then
              (1, v39, f40)
            else
              (0, v39, f40)
        else
          let t42 : Int32 := l3_2 + 1
          gsX_X6_name_2_L2 NF p2 n2 t42 v2 f2
def gsX_X6_name_2 (NF : Nat) (p2 : Int32) (v : Nat → Int32) (f : Nat → Nat → Int32) : Int32 × (Nat → Int32) × (Nat → Nat → Int32) :=
  if (v 2) = 3 then
    gsX_X6_name_2_L2 NF p2 (4294967296 + NF) 0 v f
  else
    match gsX_X6_refuse_1 NF v f with
    | (r44, v46, f47) =>
      if r44 = 1 then
        (1, v46, f47)
      else
        (0, v46, f47)
theorem gsX_X6_name_2_q9 {NF : Nat} {p2 : Int32} {v : Nat → Int32} {f : Nat → Nat → Int32} (h0 : ((v 2) = 3)) : gsX_X6_name_2 NF p2 v f = gsX_X6_name_2_L2 NF p2 (4294967296 + NF) 0 v f := by
  simp only [gsX_X6_name_2, if_pos h0]
theorem gsX_X6_name_2_q10 {NF : Nat} {p2 : Int32} {v : Nat → Int32} {f : Nat → Nat → Int32} {v46 : Nat → Int32} {f47 : Nat → Nat → Int32} (h0 : ¬ ((v 2) = 3)) (h1 : gsX_X6_refuse_1 NF v f = (1, v46, f47)) : gsX_X6_name_2 NF p2 v f = (1, v46, f47) := by
  simp only [gsX_X6_name_2, if_neg h0, h1, ite11, ite01, if_true, if_false]
theorem gsX_X6_name_2_q11 {NF : Nat} {p2 : Int32} {v : Nat → Int32} {f : Nat → Nat → Int32} {v46 : Nat → Int32} {f47 : Nat → Nat → Int32} (h0 : ¬ ((v 2) = 3)) (h1 : gsX_X6_refuse_1 NF v f = (0, v46, f47)) : gsX_X6_name_2 NF p2 v f = (0, v46, f47) := by
  simp only [gsX_X6_name_2, if_neg h0, h1, ite11, ite01, if_true, if_false]
theorem gsX_X6_name_2_q0 {NF : Nat} {p2 : Int32} {n2 : Nat} {l3_2 : Int32} {v2 : Nat → Int32} {f2 : Nat → Nat → Int32} {v8 : Nat → Int32} {f9 : Nat → Nat → Int32} (h0 : (p2 ≤ l3_2)) (h1 : (p2 < 0)) (h2 : gsX_X9_advance_1 NF v2 f2 = (v8, f9)) : gsX_X6_name_2_L2 NF p2 (n2 + 1) l3_2 v2 f2 = (1, v8, f9) := by
  simp only [gsX_X6_name_2_L2, if_pos h0, if_pos h1, h2]
theorem gsX_X6_name_2_q1 {NF : Nat} {p2 : Int32} {n2 : Nat} {l3_2 : Int32} {v2 : Nat → Int32} {f2 : Nat → Nat → Int32} {v12 : Nat → Int32} {f13 : Nat → Nat → Int32} (h0 : (p2 ≤ l3_2)) (h1 : ¬ (p2 < 0)) (h2 : (6 ≤ p2)) (h3 : gsX_X9_advance_1 NF v2 f2 = (v12, f13)) : gsX_X6_name_2_L2 NF p2 (n2 + 1) l3_2 v2 f2 = (1, v12, f13) := by
  simp only [gsX_X6_name_2_L2, if_pos h0, if_neg h1, if_pos h2, h3]
theorem gsX_X6_name_2_q2 {NF : Nat} {p2 : Int32} {n2 : Nat} {l3_2 : Int32} {v2 : Nat → Int32} {f2 : Nat → Nat → Int32} {f14 : Nat → Nat → Int32} {v16 : Nat → Int32} {f17 : Nat → Nat → Int32} (h0 : (p2 ≤ l3_2)) (h1 : ¬ (p2 < 0)) (h2 : ¬ (6 ≤ p2)) (h3 : f14 = upd2 f2 8 (upd (f2 8) p2.toNatClampNeg (v2 3))) (h4 : gsX_X9_advance_1 NF v2 f14 = (v16, f17)) : gsX_X6_name_2_L2 NF p2 (n2 + 1) l3_2 v2 f2 = (1, v16, f17) := by
  subst h3
  simp only [gsX_X6_name_2_L2, if_pos h0, if_neg h1, if_neg h2, h4]
theorem gsX_X6_name_2_q3 {NF : Nat} {p2 : Int32} {n2 : Nat} {l3_2 : Int32} {v2 : Nat → Int32} {f2 : Nat → Nat → Int32} {v23 : Nat → Int32} {f24 : Nat → Nat → Int32} (h0 : ¬ (p2 ≤ l3_2)) (h1 : (6 ≤ l3_2)) (h2 : (p2 < 0)) (h3 : gsX_X9_advance_1 NF v2 f2 = (v23, f24)) : gsX_X6_name_2_L2 NF p2 (n2 + 1) l3_2 v2 f2 = (1, v23, f24) := by
  simp only [gsX_X6_name_2_L2, if_neg h0, if_pos h1, if_pos h2, h3]
theorem gsX_X6_name_2_q4 {NF : Nat} {p2 : Int32} {n2 : Nat} {l3_2 : Int32} {v2 : Nat → Int32} {f2 : Nat → Nat → Int32} {v27 : Nat → Int32} {f28 : Nat → Nat → Int32} (h0 : ¬ (p2 ≤ l3_2)) (h1 : (6 ≤ l3_2)) (h2 : ¬ (p2 < 0)) (h3 : (6 ≤ p2)) (h4 : gsX_X9_advance_1 NF v2 f2 = (v27, f28)) : gsX_X6_name_2_L2 NF p2 (n2 + 1) l3_2 v2 f2 = (1, v27, f28) := by
  simp only [gsX_X6_name_2_L2, if_neg h0, if_pos h1, if_neg h2, if_pos h3, h4]
theorem gsX_X6_name_2_q5 {NF : Nat} {p2 : Int32} {n2 : Nat} {l3_2 : Int32} {v2 : Nat → Int32} {f2 : Nat → Nat → Int32} {f29 : Nat → Nat → Int32} {v31 : Nat → Int32} {f32 : Nat → Nat → Int32} (h0 : ¬ (p2 ≤ l3_2)) (h1 : (6 ≤ l3_2)) (h2 : ¬ (p2 < 0)) (h3 : ¬ (6 ≤ p2)) (h4 : f29 = upd2 f2 8 (upd (f2 8) p2.toNatClampNeg (v2 3))) (h5 : gsX_X9_advance_1 NF v2 f29 = (v31, f32)) : gsX_X6_name_2_L2 NF p2 (n2 + 1) l3_2 v2 f2 = (1, v31, f32) := by
  subst h4
  simp only [gsX_X6_name_2_L2, if_neg h0, if_pos h1, if_neg h2, if_neg h3, h5]
theorem gsX_X6_name_2_q6 {NF : Nat} {p2 : Int32} {n2 : Nat} {l3_2 : Int32} {v2 : Nat → Int32} {f2 : Nat → Nat → Int32} {t33 : Int32} {v39 : Nat → Int32} {f40 : Nat → Nat → Int32} (h0 : ¬ (p2 ≤ l3_2)) (h1 : ¬ (6 ≤ l3_2)) (h2 : t33 = f2 8 (l3_2).toNatClampNeg) (h3 : gsX_X9_sameWord_1 NF t33 (v2 3) v2 f2 = 1) (h4 : gsX_X6_refuseAs_1 NF 3 v2 f2 = (1, v39, f40)) : gsX_X6_name_2_L2 NF p2 (n2 + 1) l3_2 v2 f2 = (1, v39, f40) := by
  subst h2
  simp only [gsX_X6_name_2_L2, if_neg h0, if_neg h1, h3, h4, ite11, ite01, if_true, if_false]
theorem gsX_X6_name_2_q7 {NF : Nat} {p2 : Int32} {n2 : Nat} {l3_2 : Int32} {v2 : Nat → Int32} {f2 : Nat → Nat → Int32} {t33 : Int32} {v39 : Nat → Int32} {f40 : Nat → Nat → Int32} (h0 : ¬ (p2 ≤ l3_2)) (h1 : ¬ (6 ≤ l3_2)) (h2 : t33 = f2 8 (l3_2).toNatClampNeg) (h3 : gsX_X9_sameWord_1 NF t33 (v2 3) v2 f2 = 1) (h4 : gsX_X6_refuseAs_1 NF 3 v2 f2 = (0, v39, f40)) : gsX_X6_name_2_L2 NF p2 (n2 + 1) l3_2 v2 f2 = (0, v39, f40) := by
  subst h2
  simp only [gsX_X6_name_2_L2, if_neg h0, if_neg h1, h3, h4, ite11, ite01, if_true, if_false]
theorem gsX_X6_name_2_q8 {NF : Nat} {p2 : Int32} {n2 : Nat} {l3_2 : Int32} {v2 : Nat → Int32} {f2 : Nat → Nat → Int32} {t33 : Int32} {t42 : Int32} (h0 : ¬ (p2 ≤ l3_2)) (h1 : ¬ (6 ≤ l3_2)) (h2 : t33 = f2 8 (l3_2).toNatClampNeg) (h3 : gsX_X9_sameWord_1 NF t33 (v2 3) v2 f2 = 0) (h4 : t42 = l3_2 + 1) : gsX_X6_name_2_L2 NF p2 (n2 + 1) l3_2 v2 f2 = gsX_X6_name_2_L2 NF p2 n2 t42 v2 f2 := by
  subst h2 h4
  simp only [gsX_X6_name_2_L2, if_neg h0, if_neg h1, h3, ite11, ite01, if_true, if_false]
