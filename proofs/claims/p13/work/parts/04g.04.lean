def gsX_X7_addCoat_1 (NF : Nat) (p1 : Int32) (p2 : Int32) (p3 : Int32) (p4 : Int32) (v : Nat → Int32) (f : Nat → Nat → Int32) : (Nat → Int32) × (Nat → Nat → Int32) :=
  if 6 ≤ (v 10) then
    (v, f)
  else
    let t2 : Int32 := 0 + (v 10)
    let f4 : Nat → Nat → Int32 := upd2 f 2 (upd (f 2) t2.toNatClampNeg p1)
    let t5 : Int32 := 6 + (v 10)
    let f6 : Nat → Nat → Int32 := upd2 f4 2 (upd (f4 2) t5.toNatClampNeg p2)
    let t7 : Int32 := 12 + (v 10)
    let f8 : Nat → Nat → Int32 := upd2 f6 2 (upd (f6 2) t7.toNatClampNeg p3)
    let t9 : Int32 := 18 + (v 10)
    let f10 : Nat → Nat → Int32 := upd2 f8 2 (upd (f8 2) t9.toNatClampNeg p4)
    let t11 : Int32 := (v 10) + 1
    ((upd v 10 t11), f10)
theorem gsX_X7_addCoat_1_q0 {NF : Nat} {p1 : Int32} {p2 : Int32} {p3 : Int32} {p4 : Int32} {v : Nat → Int32} {f : Nat → Nat → Int32} (h0 : (6 ≤ (v 10))) : gsX_X7_addCoat_1 NF p1 p2 p3 p4 v f = (v, f) := by
  simp only [gsX_X7_addCoat_1, if_pos h0]
theorem gsX_X7_addCoat_1_q1 {NF : Nat} {p1 : Int32} {p2 : Int32} {p3 : Int32} {p4 : Int32} {v : Nat → Int32} {f : Nat → Nat → Int32} {t2 : Int32} {f4 : Nat → Nat → Int32} {t5 : Int32} {f6 : Nat → Nat → Int32} {t7 : Int32} {f8 : Nat → Nat → Int32} {t9 : Int32} {f10 : Nat → Nat → Int32} {t11 : Int32} (h0 : ¬ (6 ≤ (v 10))) (h1 : t2 = 0 + (v 10)) (h2 : f4 = upd2 f 2 (upd (f 2) t2.toNatClampNeg p1)) (h3 : t5 = 6 + (v 10)) (h4 : f6 = upd2 f4 2 (upd (f4 2) t5.toNatClampNeg p2)) (h5 : t7 = 12 + (v 10)) (h6 : f8 = upd2 f6 2 (upd (f6 2) t7.toNatClampNeg p3)) (h7 : t9 = 18 + (v 10)) (h8 : f10 = upd2 f8 2 (upd (f8 2) t9.toNatClampNeg p4)) (h9 : t11 = (v 10) + 1) : gsX_X7_addCoat_1 NF p1 p2 p3 p4 v f = ((upd v 10 t11), f10) := by
  subst h1 h2 h3 h4 h5 h6 h7 h8 h9
  simp only [gsX_X7_addCoat_1, if_neg h0]
def gsX_X6_coatLine_1 (NF : Nat) (v : Nat → Int32) (f : Nat → Nat → Int32) : Int32 × (Nat → Int32) × (Nat → Nat → Int32) :=
  if (v 10) < 6 then
    match gsX_X9_advance_1 NF v f with
    | (v3, f4) =>
      match gsX_X6_name_2 NF (v 10) v3 f4 with
      | (r5, v7, f8) =>
        if r5 = 1 then
          match gsX_X6_labelled_1 NF 109 99 v7 f8 with
          | (r10, v12, f13) =>
            if 0 ≤ r10 then
              match gsX_X6_labelled_1 NF 110 99 v12 f13 with
              | (r15, v17, f18) =>
                if 0 ≤ r15 then
                  if (v17 2) = 112 then
                    match gsX_X6_labelled_1 NF 112 20 v17 f18 with
                    | (r33, v35, f36) =>
                      if 0 ≤ r33 then
                        if (v35 2) = 120 then
                          match gsX_X6_labelled_1 NF 120 99 v35 f36 with
                          | (r42, v44, f45) =>
                            if 0 ≤ r42 then
                              match gsX_X7_addCoat_1 NF r10 r15 r33 r42 v44 f45 with
                              | (v48, f49) =>
                                (1, v48, f49)
                            else
                              (0, v44, f45)
                        else
                          match gsX_X7_addCoat_1 NF r10 r15 r33 0 v35 f36 with
                          | (v40, f41) =>
                            (1, v40, f41)
                      else
                        (0, v35, f36)
                  else
                    if (v17 2) = 120 then
                      match gsX_X6_labelled_1 NF 120 99 v17 f18 with
                      | (r25, v27, f28) =>
                        if 0 ≤ r25 then
                          match gsX_X7_addCoat_1 NF r10 r15 0 r25 v27 f28 with
                          | (v31, f32) =>
                            (1, v31, f32)
                        else
                          (0, v27, f28)
                    else
                      match gsX_X7_addCoat_1 NF r10 r15 0 0 v17 f18 with
                      | (v23, f24) =>
                        (1, v23, f24)
                else
                  (0, v17, f18)
            else
              (0, v12, f13)
        else
          (0, v7, f8)
  else
    match gsX_X6_refuse_1 NF v f with
    | (r50, v52, f53) =>
      if r50 = 1 then
        (1, v52, f53)
      else
        (0, v52, f53)
theorem gsX_X6_coatLine_1_q0 {NF : Nat} {v : Nat → Int32} {f : Nat → Nat → Int32} {v3 : Nat → Int32} {f4 : Nat → Nat → Int32} {v7 : Nat → Int32} {f8 : Nat → Nat → Int32} {r10 : Int32} {v12 : Nat → Int32} {f13 : Nat → Nat → Int32} {r15 : Int32} {v17 : Nat → Int32} {f18 : Nat → Nat → Int32} {v23 : Nat → Int32} {f24 : Nat → Nat → Int32} (h0 : ((v 10) < 6)) (h1 : gsX_X9_advance_1 NF v f = (v3, f4)) (h2 : gsX_X6_name_2 NF (v 10) v3 f4 = (1, v7, f8)) (h4 : gsX_X6_labelled_1 NF 109 99 v7 f8 = (r10, v12, f13)) (h5 : (0 ≤ r10)) (h6 : gsX_X6_labelled_1 NF 110 99 v12 f13 = (r15, v17, f18)) (h7 : (0 ≤ r15)) (h8 : ¬ ((v17 2) = 112)) (h9 : ¬ ((v17 2) = 120)) (h10 : gsX_X7_addCoat_1 NF r10 r15 0 0 v17 f18 = (v23, f24)) : gsX_X6_coatLine_1 NF v f = (1, v23, f24) := by
  simp only [gsX_X6_coatLine_1, if_pos h0, h1, h2, h4, if_pos h5, h6, if_pos h7, if_neg h8, if_neg h9, h10, ite11, ite01, if_true, if_false]
theorem gsX_X6_coatLine_1_q1 {NF : Nat} {v : Nat → Int32} {f : Nat → Nat → Int32} {v3 : Nat → Int32} {f4 : Nat → Nat → Int32} {v7 : Nat → Int32} {f8 : Nat → Nat → Int32} {r10 : Int32} {v12 : Nat → Int32} {f13 : Nat → Nat → Int32} {r15 : Int32} {v17 : Nat → Int32} {f18 : Nat → Nat → Int32} {r25 : Int32} {v27 : Nat → Int32} {f28 : Nat → Nat → Int32} {v31 : Nat → Int32} {f32 : Nat → Nat → Int32} (h0 : ((v 10) < 6)) (h1 : gsX_X9_advance_1 NF v f = (v3, f4)) (h2 : gsX_X6_name_2 NF (v 10) v3 f4 = (1, v7, f8)) (h4 : gsX_X6_labelled_1 NF 109 99 v7 f8 = (r10, v12, f13)) (h5 : (0 ≤ r10)) (h6 : gsX_X6_labelled_1 NF 110 99 v12 f13 = (r15, v17, f18)) (h7 : (0 ≤ r15)) (h8 : ¬ ((v17 2) = 112)) (h9 : ((v17 2) = 120)) (h10 : gsX_X6_labelled_1 NF 120 99 v17 f18 = (r25, v27, f28)) (h11 : (0 ≤ r25)) (h12 : gsX_X7_addCoat_1 NF r10 r15 0 r25 v27 f28 = (v31, f32)) : gsX_X6_coatLine_1 NF v f = (1, v31, f32) := by
  simp only [gsX_X6_coatLine_1, if_pos h0, h1, h2, h4, if_pos h5, h6, if_pos h7, if_neg h8, if_pos h9, h10, if_pos h11, h12, ite11, ite01, if_true, if_false]
theorem gsX_X6_coatLine_1_q2 {NF : Nat} {v : Nat → Int32} {f : Nat → Nat → Int32} {v3 : Nat → Int32} {f4 : Nat → Nat → Int32} {v7 : Nat → Int32} {f8 : Nat → Nat → Int32} {r10 : Int32} {v12 : Nat → Int32} {f13 : Nat → Nat → Int32} {r15 : Int32} {v17 : Nat → Int32} {f18 : Nat → Nat → Int32} {r25 : Int32} {v27 : Nat → Int32} {f28 : Nat → Nat → Int32} (h0 : ((v 10) < 6)) (h1 : gsX_X9_advance_1 NF v f = (v3, f4)) (h2 : gsX_X6_name_2 NF (v 10) v3 f4 = (1, v7, f8)) (h4 : gsX_X6_labelled_1 NF 109 99 v7 f8 = (r10, v12, f13)) (h5 : (0 ≤ r10)) (h6 : gsX_X6_labelled_1 NF 110 99 v12 f13 = (r15, v17, f18)) (h7 : (0 ≤ r15)) (h8 : ¬ ((v17 2) = 112)) (h9 : ((v17 2) = 120)) (h10 : gsX_X6_labelled_1 NF 120 99 v17 f18 = (r25, v27, f28)) (h11 : ¬ (0 ≤ r25)) : gsX_X6_coatLine_1 NF v f = (0, v27, f28) := by
  simp only [gsX_X6_coatLine_1, if_pos h0, h1, h2, h4, if_pos h5, h6, if_pos h7, if_neg h8, if_pos h9, h10, if_neg h11, ite11, ite01, if_true, if_false]
theorem gsX_X6_coatLine_1_q3 {NF : Nat} {v : Nat → Int32} {f : Nat → Nat → Int32} {v3 : Nat → Int32} {f4 : Nat → Nat → Int32} {v7 : Nat → Int32} {f8 : Nat → Nat → Int32} {r10 : Int32} {v12 : Nat → Int32} {f13 : Nat → Nat → Int32} {r15 : Int32} {v17 : Nat → Int32} {f18 : Nat → Nat → Int32} {r33 : Int32} {v35 : Nat → Int32} {f36 : Nat → Nat → Int32} {v40 : Nat → Int32} {f41 : Nat → Nat → Int32} (h0 : ((v 10) < 6)) (h1 : gsX_X9_advance_1 NF v f = (v3, f4)) (h2 : gsX_X6_name_2 NF (v 10) v3 f4 = (1, v7, f8)) (h4 : gsX_X6_labelled_1 NF 109 99 v7 f8 = (r10, v12, f13)) (h5 : (0 ≤ r10)) (h6 : gsX_X6_labelled_1 NF 110 99 v12 f13 = (r15, v17, f18)) (h7 : (0 ≤ r15)) (h8 : ((v17 2) = 112)) (h9 : gsX_X6_labelled_1 NF 112 20 v17 f18 = (r33, v35, f36)) (h10 : (0 ≤ r33)) (h11 : ¬ ((v35 2) = 120)) (h12 : gsX_X7_addCoat_1 NF r10 r15 r33 0 v35 f36 = (v40, f41)) : gsX_X6_coatLine_1 NF v f = (1, v40, f41) := by
  simp only [gsX_X6_coatLine_1, if_pos h0, h1, h2, h4, if_pos h5, h6, if_pos h7, if_pos h8, h9, if_pos h10, if_neg h11, h12, ite11, ite01, if_true, if_false]
theorem gsX_X6_coatLine_1_q4 {NF : Nat} {v : Nat → Int32} {f : Nat → Nat → Int32} {v3 : Nat → Int32} {f4 : Nat → Nat → Int32} {v7 : Nat → Int32} {f8 : Nat → Nat → Int32} {r10 : Int32} {v12 : Nat → Int32} {f13 : Nat → Nat → Int32} {r15 : Int32} {v17 : Nat → Int32} {f18 : Nat → Nat → Int32} {r33 : Int32} {v35 : Nat → Int32} {f36 : Nat → Nat → Int32} {r42 : Int32} {v44 : Nat → Int32} {f45 : Nat → Nat → Int32} {v48 : Nat → Int32} {f49 : Nat → Nat → Int32} (h0 : ((v 10) < 6)) (h1 : gsX_X9_advance_1 NF v f = (v3, f4)) (h2 : gsX_X6_name_2 NF (v 10) v3 f4 = (1, v7, f8)) (h4 : gsX_X6_labelled_1 NF 109 99 v7 f8 = (r10, v12, f13)) (h5 : (0 ≤ r10)) (h6 : gsX_X6_labelled_1 NF 110 99 v12 f13 = (r15, v17, f18)) (h7 : (0 ≤ r15)) (h8 : ((v17 2) = 112)) (h9 : gsX_X6_labelled_1 NF 112 20 v17 f18 = (r33, v35, f36)) (h10 : (0 ≤ r33)) (h11 : ((v35 2) = 120)) (h12 : gsX_X6_labelled_1 NF 120 99 v35 f36 = (r42, v44, f45)) (h13 : (0 ≤ r42)) (h14 : gsX_X7_addCoat_1 NF r10 r15 r33 r42 v44 f45 = (v48, f49)) : gsX_X6_coatLine_1 NF v f = (1, v48, f49) := by
  simp only [gsX_X6_coatLine_1, if_pos h0, h1, h2, h4, if_pos h5, h6, if_pos h7, if_pos h8, h9, if_pos h10, if_pos h11, h12, if_pos h13, h14, ite11, ite01, if_true, if_false]
theorem gsX_X6_coatLine_1_q5 {NF : Nat} {v : Nat → Int32} {f : Nat → Nat → Int32} {v3 : Nat → Int32} {f4 : Nat → Nat → Int32} {v7 : Nat → Int32} {f8 : Nat → Nat → Int32} {r10 : Int32} {v12 : Nat → Int32} {f13 : Nat → Nat → Int32} {r15 : Int32} {v17 : Nat → Int32} {f18 : Nat → Nat → Int32} {r33 : Int32} {v35 : Nat → Int32} {f36 : Nat → Nat → Int32} {r42 : Int32} {v44 : Nat → Int32} {f45 : Nat → Nat → Int32} (h0 : ((v 10) < 6)) (h1 : gsX_X9_advance_1 NF v f = (v3, f4)) (h2 : gsX_X6_name_2 NF (v 10) v3 f4 = (1, v7, f8)) (h4 : gsX_X6_labelled_1 NF 109 99 v7 f8 = (r10, v12, f13)) (h5 : (0 ≤ r10)) (h6 : gsX_X6_labelled_1 NF 110 99 v12 f13 = (r15, v17, f18)) (h7 : (0 ≤ r15)) (h8 : ((v17 2) = 112)) (h9 : gsX_X6_labelled_1 NF 112 20 v17 f18 = (r33, v35, f36)) (h10 : (0 ≤ r33)) (h11 : ((v35 2) = 120)) (h12 : gsX_X6_labelled_1 NF 120 99 v35 f36 = (r42, v44, f45)) (h13 : ¬ (0 ≤ r42)) : gsX_X6_coatLine_1 NF v f = (0, v44, f45) := by
  simp only [gsX_X6_coatLine_1, if_pos h0, h1, h2, h4, if_pos h5, h6, if_pos h7, if_pos h8, h9, if_pos h10, if_pos h11, h12, if_neg h13, ite11, ite01, if_true, if_false]
theorem gsX_X6_coatLine_1_q6 {NF : Nat} {v : Nat → Int32} {f : Nat → Nat → Int32} {v3 : Nat → Int32} {f4 : Nat → Nat → Int32} {v7 : Nat → Int32} {f8 : Nat → Nat → Int32} {r10 : Int32} {v12 : Nat → Int32} {f13 : Nat → Nat → Int32} {r15 : Int32} {v17 : Nat → Int32} {f18 : Nat → Nat → Int32} {r33 : Int32} {v35 : Nat → Int32} {f36 : Nat → Nat → Int32} (h0 : ((v 10) < 6)) (h1 : gsX_X9_advance_1 NF v f = (v3, f4)) (h2 : gsX_X6_name_2 NF (v 10) v3 f4 = (1, v7, f8)) (h4 : gsX_X6_labelled_1 NF 109 99 v7 f8 = (r10, v12, f13)) (h5 : (0 ≤ r10)) (h6 : gsX_X6_labelled_1 NF 110 99 v12 f13 = (r15, v17, f18)) (h7 : (0 ≤ r15)) (h8 : ((v17 2) = 112)) (h9 : gsX_X6_labelled_1 NF 112 20 v17 f18 = (r33, v35, f36)) (h10 : ¬ (0 ≤ r33)) : gsX_X6_coatLine_1 NF v f = (0, v35, f36) := by
  simp only [gsX_X6_coatLine_1, if_pos h0, h1, h2, h4, if_pos h5, h6, if_pos h7, if_pos h8, h9, if_neg h10, ite11, ite01, if_true, if_false]
theorem gsX_X6_coatLine_1_q7 {NF : Nat} {v : Nat → Int32} {f : Nat → Nat → Int32} {v3 : Nat → Int32} {f4 : Nat → Nat → Int32} {v7 : Nat → Int32} {f8 : Nat → Nat → Int32} {r10 : Int32} {v12 : Nat → Int32} {f13 : Nat → Nat → Int32} {r15 : Int32} {v17 : Nat → Int32} {f18 : Nat → Nat → Int32} (h0 : ((v 10) < 6)) (h1 : gsX_X9_advance_1 NF v f = (v3, f4)) (h2 : gsX_X6_name_2 NF (v 10) v3 f4 = (1, v7, f8)) (h4 : gsX_X6_labelled_1 NF 109 99 v7 f8 = (r10, v12, f13)) (h5 : (0 ≤ r10)) (h6 : gsX_X6_labelled_1 NF 110 99 v12 f13 = (r15, v17, f18)) (h7 : ¬ (0 ≤ r15)) : gsX_X6_coatLine_1 NF v f = (0, v17, f18) := by
  simp only [gsX_X6_coatLine_1, if_pos h0, h1, h2, h4, if_pos h5, h6, if_neg h7, ite11, ite01, if_true, if_false]
theorem gsX_X6_coatLine_1_q8 {NF : Nat} {v : Nat → Int32} {f : Nat → Nat → Int32} {v3 : Nat → Int32} {f4 : Nat → Nat → Int32} {v7 : Nat → Int32} {f8 : Nat → Nat → Int32} {r10 : Int32} {v12 : Nat → Int32} {f13 : Nat → Nat → Int32} (h0 : ((v 10) < 6)) (h1 : gsX_X9_advance_1 NF v f = (v3, f4)) (h2 : gsX_X6_name_2 NF (v 10) v3 f4 = (1, v7, f8)) (h4 : gsX_X6_labelled_1 NF 109 99 v7 f8 = (r10, v12, f13)) (h5 : ¬ (0 ≤ r10)) : gsX_X6_coatLine_1 NF v f = (0, v12, f13) := by
  simp only [gsX_X6_coatLine_1, if_pos h0, h1, h2, h4, if_neg h5, ite11, ite01, if_true, if_false]
theorem gsX_X6_coatLine_1_q9 {NF : Nat} {v : Nat → Int32} {f : Nat → Nat → Int32} {v3 : Nat → Int32} {f4 : Nat → Nat → Int32} {v7 : Nat → Int32} {f8 : Nat → Nat → Int32} (h0 : ((v 10) < 6)) (h1 : gsX_X9_advance_1 NF v f = (v3, f4)) (h2 : gsX_X6_name_2 NF (v 10) v3 f4 = (0, v7, f8)) : gsX_X6_coatLine_1 NF v f = (0, v7, f8) := by
  simp only [gsX_X6_coatLine_1, if_pos h0, h1, h2, ite11, ite01, if_true, if_false]
theorem gsX_X6_coatLine_1_q10 {NF : Nat} {v : Nat → Int32} {f : Nat → Nat → Int32} {v52 : Nat → Int32} {f53 : Nat → Nat → Int32} (h0 : ¬ ((v 10) < 6)) (h1 : gsX_X6_refuse_1 NF v f = (1, v52, f53)) : gsX_X6_coatLine_1 NF v f = (1, v52, f53) := by
  simp only [gsX_X6_coatLine_1, if_neg h0, h1, ite11, ite01, if_true, if_false]
theorem gsX_X6_coatLine_1_q11 {NF : Nat} {v : Nat → Int32} {f : Nat → Nat → Int32} {v52 : Nat → Int32} {f53 : Nat → Nat → Int32} (h0 : ¬ ((v 10) < 6)) (h1 : gsX_X6_refuse_1 NF v f = (0, v52, f53)) : gsX_X6_coatLine_1 NF v f = (0, v52, f53) := by
  simp only [gsX_X6_coatLine_1, if_neg h0, h1, ite11, ite01, if_true, if_false]
def gsX_X6_opened_1 (NF : Nat) (p1 : Int32) (v : Nat → Int32) (f : Nat → Nat → Int32) : Int32 × (Nat → Int32) × (Nat → Nat → Int32) :=
  let t1 : Int32 := p1 - 103
  let t2 : Int32 := 1 <<< (t1 &&& 31)
  let t3 : Int32 := (v 6) &&& t2
  if t3 = 0 then
    let t5 : Int32 := (v 6) ||| t2
    match gsX_X9_advance_1 NF (upd v 6 t5) f with
    | (v7, f8) =>
      (1, v7, f8)
  else
    match gsX_X6_refuse_1 NF v f with
    | (r9, v11, f12) =>
      if r9 = 1 then
        (1, v11, f12)
      else
        (0, v11, f12)
theorem gsX_X6_opened_1_q0 {NF : Nat} {p1 : Int32} {v : Nat → Int32} {f : Nat → Nat → Int32} {t1 : Int32} {t2 : Int32} {t3 : Int32} {t5 : Int32} {v7 : Nat → Int32} {f8 : Nat → Nat → Int32} (h0 : t1 = p1 - 103) (h1 : t2 = 1 <<< (t1 &&& 31)) (h2 : t3 = (v 6) &&& t2) (h3 : (t3 = 0)) (h4 : t5 = (v 6) ||| t2) (h5 : gsX_X9_advance_1 NF (upd v 6 t5) f = (v7, f8)) : gsX_X6_opened_1 NF p1 v f = (1, v7, f8) := by
  subst h0 h1 h2 h4
  simp only [gsX_X6_opened_1, if_pos h3, h5]
theorem gsX_X6_opened_1_q1 {NF : Nat} {p1 : Int32} {v : Nat → Int32} {f : Nat → Nat → Int32} {t1 : Int32} {t2 : Int32} {t3 : Int32} {v11 : Nat → Int32} {f12 : Nat → Nat → Int32} (h0 : t1 = p1 - 103) (h1 : t2 = 1 <<< (t1 &&& 31)) (h2 : t3 = (v 6) &&& t2) (h3 : ¬ (t3 = 0)) (h4 : gsX_X6_refuse_1 NF v f = (1, v11, f12)) : gsX_X6_opened_1 NF p1 v f = (1, v11, f12) := by
  subst h0 h1 h2
  simp only [gsX_X6_opened_1, if_neg h3, h4, ite11, ite01, if_true, if_false]
theorem gsX_X6_opened_1_q2 {NF : Nat} {p1 : Int32} {v : Nat → Int32} {f : Nat → Nat → Int32} {t1 : Int32} {t2 : Int32} {t3 : Int32} {v11 : Nat → Int32} {f12 : Nat → Nat → Int32} (h0 : t1 = p1 - 103) (h1 : t2 = 1 <<< (t1 &&& 31)) (h2 : t3 = (v 6) &&& t2) (h3 : ¬ (t3 = 0)) (h4 : gsX_X6_refuse_1 NF v f = (0, v11, f12)) : gsX_X6_opened_1 NF p1 v f = (0, v11, f12) := by
  subst h0 h1 h2
  simp only [gsX_X6_opened_1, if_neg h3, h4, ite11, ite01, if_true, if_false]
