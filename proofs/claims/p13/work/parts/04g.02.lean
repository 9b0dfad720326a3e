def gsX_X9_rewind_1 (NF : Nat) (v : Nat → Int32) (f : Nat → Nat → Int32) : (Nat → Int32) × (Nat → Nat → Int32) :=
  match gsX_X9_advance_1 NF (upd v 4 0) f with
  | (v2, f3) =>
    (v2, f3)
theorem gsX_X9_rewind_1_q0 {NF : Nat} {v : Nat → Int32} {f : Nat → Nat → Int32} {v2 : Nat → Int32} {f3 : Nat → Nat → Int32} (h0 : gsX_X9_advance_1 NF (upd v 4 0) f = (v2, f3)) : gsX_X9_rewind_1 NF v f = (v2, f3) := by
  simp only [gsX_X9_rewind_1, h0]
def gsX_X9_sameWord_1_L1 (NF : Nat) (p1 : Int32) (p2 : Int32) (v : Nat → Int32) (f : Nat → Nat → Int32) : Nat → (Int32) → Int32
  | 0, _ => 0
  | n1 + 1, l3_1 =>
    if 8 < l3_1 then
      1
    else
      let t3 : Int32 := p1 + l3_1
      if gsX_X9_isLetter_1 NF t3 v f = 1 then
        let t7 : Int32 := p2 + l3_1
        if gsX_X9_isLetter_1 NF t7 v f = 1 then
          let t11 : Int32 := f 0 (t3).toNatClampNeg
          let t12 : Int32 := f 0 (t7).toNatClampNeg
          if t11 = t12 then
            let t16 : Int32 := l3_1 + 1
            gsX_X9_sameWord_1_L1 NF p1 p2 v f n1 t16
          else
            0
        else
          if gsX_X9_isLetter_1 NF t3 v f = 1 then
            if gsX_X9_isLetter_1 NF t7 v f = 1 then
              1
            else
              0
          else
            if gsX_X9_isLetter_1 NF t7 v f = 1 then
              0
            else
              1
      else
        if gsX_X9_isLetter_1 NF t3 v f = 1 then
          let t33 : Int32 := p2 + l3_1
          if gsX_X9_isLetter_1 NF t33 v f = 1 then
            1
          else
            0
        else
          let t37 : Int32 := p2 + l3_1
          if gsX_X9_isLetter_1 NF t37 v f = 1 then
            0
          else
            1
def gsX_X9_sameWord_1 (NF : Nat) (p1 : Int32) (p2 : Int32) (v : Nat → Int32) (f : Nat → Nat → Int32) : Int32 :=
  gsX_X9_sameWord_1_L1 NF p1 p2 v f (4294967296 + NF) 0
theorem gsX_X9_sameWord_1_q11 {NF : Nat} {p1 : Int32} {p2 : Int32} {v : Nat → Int32} {f : Nat → Nat → Int32}  : gsX_X9_sameWord_1 NF p1 p2 v f = gsX_X9_sameWord_1_L1 NF p1 p2 v f (4294967296 + NF) 0 := by
  simp only [gsX_X9_sameWord_1]
theorem gsX_X9_sameWord_1_q0 {NF : Nat} {p1 : Int32} {p2 : Int32} {v : Nat → Int32} {f : Nat → Nat → Int32} {n1 : Nat} {l3_1 : Int32} (h0 : (8 < l3_1)) : gsX_X9_sameWord_1_L1 NF p1 p2 v f (n1 + 1) l3_1 = 1 := by
  simp only [gsX_X9_sameWord_1_L1, if_pos h0]
theorem gsX_X9_sameWord_1_q1 {NF : Nat} {p1 : Int32} {p2 : Int32} {v : Nat → Int32} {f : Nat → Nat → Int32} {n1 : Nat} {l3_1 : Int32} {t3 : Int32} {t7 : Int32} {t11 : Int32} {t12 : Int32} {t16 : Int32} (h0 : ¬ (8 < l3_1)) (h1 : t3 = p1 + l3_1) (h2 : gsX_X9_isLetter_1 NF t3 v f = 1) (h3 : t7 = p2 + l3_1) (h4 : gsX_X9_isLetter_1 NF t7 v f = 1) (h5 : t11 = f 0 (t3).toNatClampNeg) (h6 : t12 = f 0 (t7).toNatClampNeg) (h7 : (t11 = t12)) (h8 : t16 = l3_1 + 1) : gsX_X9_sameWord_1_L1 NF p1 p2 v f (n1 + 1) l3_1 = gsX_X9_sameWord_1_L1 NF p1 p2 v f n1 t16 := by
  subst h1 h3 h5 h6 h8
  simp only [gsX_X9_sameWord_1_L1, if_neg h0, h2, h4, if_pos h7, ite11, ite01, if_true, if_false]
theorem gsX_X9_sameWord_1_q2 {NF : Nat} {p1 : Int32} {p2 : Int32} {v : Nat → Int32} {f : Nat → Nat → Int32} {n1 : Nat} {l3_1 : Int32} {t3 : Int32} {t7 : Int32} {t11 : Int32} {t12 : Int32} (h0 : ¬ (8 < l3_1)) (h1 : t3 = p1 + l3_1) (h2 : gsX_X9_isLetter_1 NF t3 v f = 1) (h3 : t7 = p2 + l3_1) (h4 : gsX_X9_isLetter_1 NF t7 v f = 1) (h5 : t11 = f 0 (t3).toNatClampNeg) (h6 : t12 = f 0 (t7).toNatClampNeg) (h7 : ¬ (t11 = t12)) : gsX_X9_sameWord_1_L1 NF p1 p2 v f (n1 + 1) l3_1 = 0 := by
  subst h1 h3 h5 h6
  simp only [gsX_X9_sameWord_1_L1, if_neg h0, h2, h4, if_neg h7, ite11, ite01, if_true, if_false]
theorem gsX_X9_sameWord_1_q3 {NF : Nat} {p1 : Int32} {p2 : Int32} {v : Nat → Int32} {f : Nat → Nat → Int32} {n1 : Nat} {l3_1 : Int32} {t3 : Int32} {t7 : Int32} (h0 : ¬ (8 < l3_1)) (h1 : t3 = p1 + l3_1) (h2 : gsX_X9_isLetter_1 NF t3 v f = 1) (h3 : t7 = p2 + l3_1) (h4 : gsX_X9_isLetter_1 NF t7 v f = 0) (h5 : gsX_X9_isLetter_1 NF t3 v f = 1) (h6 : gsX_X9_isLetter_1 NF t7 v f = 1) : gsX_X9_sameWord_1_L1 NF p1 p2 v f (n1 + 1) l3_1 = 1 := by
  exact absurd (h6.symm.trans h4) (by decide)
theorem gsX_X9_sameWord_1_q4 {NF : Nat} {p1 : Int32} {p2 : Int32} {v : Nat → Int32} {f : Nat → Nat → Int32} {n1 : Nat} {l3_1 : Int32} {t3 : Int32} {t7 : Int32} (h0 : ¬ (8 < l3_1)) (h1 : t3 = p1 + l3_1) (h2 : gsX_X9_isLetter_1 NF t3 v f = 1) (h3 : t7 = p2 + l3_1) (h4 : gsX_X9_isLetter_1 NF t7 v f = 0) (h5 : gsX_X9_isLetter_1 NF t3 v f = 1) (h6 : gsX_X9_isLetter_1 NF t7 v f = 0) : gsX_X9_sameWord_1_L1 NF p1 p2 v f (n1 + 1) l3_1 = 0 := by
  subst h1 h3
  simp only [gsX_X9_sameWord_1_L1, if_neg h0, h2, h4, h5, h6, ite11, ite01, if_true, if_false]
theorem gsX_X9_sameWord_1_q5 {NF : Nat} {p1 : Int32} {p2 : Int32} {v : Nat → Int32} {f : Nat → Nat → Int32} {n1 : Nat} {l3_1 : Int32} {t3 : Int32} {t7 : Int32} (h0 : ¬ (8 < l3_1)) (h1 : t3 = p1 + l3_1) (h2 : gsX_X9_isLetter_1 NF t3 v f = 1) (h3 : t7 = p2 + l3_1) (h4 : gsX_X9_isLetter_1 NF t7 v f = 0) (h5 : gsX_X9_isLetter_1 NF t3 v f = 0) (h6 : gsX_X9_isLetter_1 NF t7 v f = 1) : gsX_X9_sameWord_1_L1 NF p1 p2 v f (n1 + 1) l3_1 = 0 := by
  exact absurd (h2.symm.trans h5) (by decide)
theorem gsX_X9_sameWord_1_q6 {NF : Nat} {p1 : Int32} {p2 : Int32} {v : Nat → Int32} {f : Nat → Nat → Int32} {n1 : Nat} {l3_1 : Int32} {t3 : Int32} {t7 : Int32} (h0 : ¬ (8 < l3_1)) (h1 : t3 = p1 + l3_1) (h2 : gsX_X9_isLetter_1 NF t3 v f = 1) (h3 : t7 = p2 + l3_1) (h4 : gsX_X9_isLetter_1 NF t7 v f = 0) (h5 : gsX_X9_isLetter_1 NF t3 v f = 0) (h6 : gsX_X9_isLetter_1 NF t7 v f = 0) : gsX_X9_sameWord_1_L1 NF p1 p2 v f (n1 + 1) l3_1 = 1 := by
  exact absurd (h2.symm.trans h5) (by decide)
theorem gsX_X9_sameWord_1_q7 {NF : Nat} {p1 : Int32} {p2 : Int32} {v : Nat → Int32} {f : Nat → Nat → Int32} {n1 : Nat} {l3_1 : Int32} {t3 : Int32} {t33 : Int32} (h0 : ¬ (8 < l3_1)) (h1 : t3 = p1 + l3_1) (h2 : gsX_X9_isLetter_1 NF t3 v f = 0) (h3 : gsX_X9_isLetter_1 NF t3 v f = 1) (h4 : t33 = p2 + l3_1) (h5 : gsX_X9_isLetter_1 NF t33 v f = 1) : gsX_X9_sameWord_1_L1 NF p1 p2 v f (n1 + 1) l3_1 = 1 := by
  exact absurd (h3.symm.trans h2) (by decide)
theorem gsX_X9_sameWord_1_q8 {NF : Nat} {p1 : Int32} {p2 : Int32} {v : Nat → Int32} {f : Nat → Nat → Int32} {n1 : Nat} {l3_1 : Int32} {t3 : Int32} {t33 : Int32} (h0 : ¬ (8 < l3_1)) (h1 : t3 = p1 + l3_1) (h2 : gsX_X9_isLetter_1 NF t3 v f = 0) (h3 : gsX_X9_isLetter_1 NF t3 v f = 1) (h4 : t33 = p2 + l3_1) (h5 : gsX_X9_isLetter_1 NF t33 v f = 0) : gsX_X9_sameWord_1_L1 NF p1 p2 v f (n1 + 1) l3_1 = 0 := by
  exact absurd (h3.symm.trans h2) (by decide)
theorem gsX_X9_sameWord_1_q9 {NF : Nat} {p1 : Int32} {p2 : Int32} {v : Nat → Int32} {f : Nat → Nat → Int32} {n1 : Nat} {l3_1 : Int32} {t3 : Int32} {t37 : Int32} (h0 : ¬ (8 < l3_1)) (h1 : t3 = p1 + l3_1) (h2 : gsX_X9_isLetter_1 NF t3 v f = 0) (h3 : gsX_X9_isLetter_1 NF t3 v f = 0) (h4 : t37 = p2 + l3_1) (h5 : gsX_X9_isLetter_1 NF t37 v f = 1) : gsX_X9_sameWord_1_L1 NF p1 p2 v f (n1 + 1) l3_1 = 0 := by
  subst h1 h4
  simp only [gsX_X9_sameWord_1_L1, if_neg h0, h2, h3, h5, ite11, ite01, if_true, if_false]
theorem gsX_X9_sameWord_1_q10 {NF : Nat} {p1 : Int32} {p2 : Int32} {v : Nat → Int32} {f : Nat → Nat → Int32} {n1 : Nat} {l3_1 : Int32} {t3 : Int32} {t37 : Int32} (h0 : ¬ (8 < l3_1)) (h1 : t3 = p1 + l3_1) (h2 : gsX_X9_isLetter_1 NF t3 v f = 0) (h3 : gsX_X9_isLetter_1 NF t3 v f = 0) (h4 : t37 = p2 + l3_1) (h5 : gsX_X9_isLetter_1 NF t37 v f = 0) : gsX_X9_sameWord_1_L1 NF p1 p2 v f (n1 + 1) l3_1 = 1 := by
  subst h1 h4
  simp only [gsX_X9_sameWord_1_L1, if_neg h0, h2, h3, h5, ite11, ite01, if_true, if_false]
def gsX_X6_refuseAs_1 (NF : Nat) (p1 : Int32) (v : Nat → Int32) (f : Nat → Nat → Int32) : Int32 × (Nat → Int32) × (Nat → Nat → Int32) :=
  (0, (upd (upd v 7 p1) 8 (v 3)), f)
theorem gsX_X6_refuseAs_1_q0 {NF : Nat} {p1 : Int32} {v : Nat → Int32} {f : Nat → Nat → Int32}  : gsX_X6_refuseAs_1 NF p1 v f = (0, (upd (upd v 7 p1) 8 (v 3)), f) := by
  simp only [gsX_X6_refuseAs_1]
def gsX_X6_refuse_1 (NF : Nat) (v : Nat → Int32) (f : Nat → Nat → Int32) : Int32 × (Nat → Int32) × (Nat → Nat → Int32) :=
  if (v 2) = 1 then
    match gsX_X6_refuseAs_1 NF 1 v f with
    | (r7, v9, f10) =>
      if r7 = 1 then
        (1, v9, f10)
      else
        (0, v9, f10)
  else
    match gsX_X6_refuseAs_1 NF 2 v f with
    | (r2, v4, f5) =>
      if r2 = 1 then
        (1, v4, f5)
      else
        (0, v4, f5)
theorem gsX_X6_refuse_1_q0 {NF : Nat} {v : Nat → Int32} {f : Nat → Nat → Int32} {v4 : Nat → Int32} {f5 : Nat → Nat → Int32} (h0 : ¬ ((v 2) = 1)) (h1 : gsX_X6_refuseAs_1 NF 2 v f = (1, v4, f5)) : gsX_X6_refuse_1 NF v f = (1, v4, f5) := by
  simp only [gsX_X6_refuse_1, if_neg h0, h1, ite11, ite01, if_true, if_false]
theorem gsX_X6_refuse_1_q1 {NF : Nat} {v : Nat → Int32} {f : Nat → Nat → Int32} {v4 : Nat → Int32} {f5 : Nat → Nat → Int32} (h0 : ¬ ((v 2) = 1)) (h1 : gsX_X6_refuseAs_1 NF 2 v f = (0, v4, f5)) : gsX_X6_refuse_1 NF v f = (0, v4, f5) := by
  simp only [gsX_X6_refuse_1, if_neg h0, h1, ite11, ite01, if_true, if_false]
theorem gsX_X6_refuse_1_q2 {NF : Nat} {v : Nat → Int32} {f : Nat → Nat → Int32} {v9 : Nat → Int32} {f10 : Nat → Nat → Int32} (h0 : ((v 2) = 1)) (h1 : gsX_X6_refuseAs_1 NF 1 v f = (1, v9, f10)) : gsX_X6_refuse_1 NF v f = (1, v9, f10) := by
  simp only [gsX_X6_refuse_1, if_pos h0, h1, ite11, ite01, if_true, if_false]
theorem gsX_X6_refuse_1_q3 {NF : Nat} {v : Nat → Int32} {f : Nat → Nat → Int32} {v9 : Nat → Int32} {f10 : Nat → Nat → Int32} (h0 : ((v 2) = 1)) (h1 : gsX_X6_refuseAs_1 NF 1 v f = (0, v9, f10)) : gsX_X6_refuse_1 NF v f = (0, v9, f10) := by
  simp only [gsX_X6_refuse_1, if_pos h0, h1, ite11, ite01, if_true, if_false]
def gsX_X6_name_1_L2 (NF : Nat) (p2 : Int32) : Nat → (Int32) → (Nat → Int32) → (Nat → Nat → Int32) → Int32 × (Nat → Int32) × (Nat → Nat → Int32)
  | 0, _, _, _ => (0, (fun _ => 0), (fun _ _ => 0))
  | n2 + 1, l3_2, v2, f2 =>
    if p2 ≤ l3_2 then
      if p2 < 0 then
        match gsX_X9_advance_1 NF v2 f2 with
        | (v8, f9) =>
          (1, v8, f9)
      else
        if 6 ≤ p2 then
          match gsX_X9_advance_1 NF v2 f2 with
          | (v12, f13) =>
            (1, v12, f13)
        else
          let f14 : Nat → Nat → Int32 := upd2 f2 7 (upd (f2 7) p2.toNatClampNeg (v2 3))
          match gsX_X9_advance_1 NF v2 f14 with
          | (v16, f17) =>
            (1, v16, f17)
    else
      if 6 ≤ l3_2 then
        if p2 < 0 then
          match gsX_X9_advance_1 NF v2 f2 with
          | (v23, f24) =>
            (1, v23, f24)
        else
          if 6 ≤ p2 then
            match gsX_X9_advance_1 NF v2 f2 with
            | (v27, f28) =>
              (1, v27, f28)
          else
            let f29 : Nat → Nat → Int32 := upd2 f2 7 (upd (f2 7) p2.toNatClampNeg (v2 3))
            match gsX_X9_advance_1 NF v2 f29 with
            | (v31, f32) =>
              (1, v31, f32)
      else
        let t33 : Int32 := f2 7 (l3_2).toNatClampNeg
        if gsX_X9_sameWord_1 NF t33 (v2 3) v2 f2 = 1 then
          match gsX_X6_refuseAs_1 NF 3 v2 f2 with
          | (r37, v39, f40) =>
            if r37 = 1 then
              (1, v39, f40)
            else
              (0, v39, f40)
        else
          let t42 : Int32 := l3_2 + 1
          gsX_X6_name_1_L2 NF p2 n2 t42 v2 f2
def gsX_X6_name_1 (NF : Nat) (p2 : Int32) (v : Nat → Int32) (f : Nat → Nat → Int32) : Int32 × (Nat → Int32) × (Nat → Nat → Int32) :=
  if (v 2) = 3 then
    gsX_X6_name_1_L2 NF p2 (4294967296 + NF) 0 v f
  else
    match gsX_X6_refuse_1 NF v f with
    | (r44, v46, f47) =>
      if r44 = 1 then
        (1, v46, f47)
      else
        (0, v46, f47)
theorem gsX_X6_name_1_q9 {NF : Nat} {p2 : Int32} {v : Nat → Int32} {f : Nat → Nat → Int32} (h0 : ((v 2) = 3)) : gsX_X6_name_1 NF p2 v f = gsX_X6_name_1_L2 NF p2 (4294967296 + NF) 0 v f := by
  simp only [gsX_X6_name_1, if_pos h0]
theorem gsX_X6_name_1_q10 {NF : Nat} {p2 : Int32} {v : Nat → Int32} {f : Nat → Nat → Int32} {v46 : Nat → Int32} {f47 : Nat → Nat → Int32} (h0 : ¬ ((v 2) = 3)) (h1 : gsX_X6_refuse_1 NF v f = (1, v46, f47)) : gsX_X6_name_1 NF p2 v f = (1, v46, f47) := by
  simp only [gsX_X6_name_1, if_neg h0, h1, ite11, ite01, if_true, if_false]
theorem gsX_X6_name_1_q11 {NF : Nat} {p2 : Int32} {v : Nat → Int32} {f : Nat → Nat → Int32} {v46 : Nat → Int32} {f47 : Nat → Nat → Int32} (h0 : ¬ ((v 2) = 3)) (h1 : gsX_X6_refuse_1 NF v f = (0, v46, f47)) : gsX_X6_name_1 NF p2 v f = (0, v46, f47) := by
  simp only [gsX_X6_name_1, if_neg h0, h1, ite11, ite01, if_true, if_false]
theorem gsX_X6_name_1_q0 {NF : Nat} {p2 : Int32} {n2 : Nat} {l3_2 : Int32} {v2 : Nat → Int32} {f2 : Nat → Nat → Int32} {v8 : Nat → Int32} {f9 : Nat → Nat → Int32} (h0 : (p2 ≤ l3_2)) (h1 : (p2 < 0)) (h2 : gsX_X9_advance_1 NF v2 f2 = (v8, f9)) : gsX_X6_name_1_L2 NF p2 (n2 + 1) l3_2 v2 f2 = (1, v8, f9) := by
  simp only [gsX_X6_name_1_L2, if_pos h0, if_pos h1, h2]
theorem gsX_X6_name_1_q1 {NF : Nat} {p2 : Int32} {n2 : Nat} {l3_2 : Int32} {v2 : Nat → Int32} {f2 : Nat → Nat → Int32} {v12 : Nat → Int32} {f13 : Nat → Nat → Int32} (h0 : (p2 ≤ l3_2)) (h1 : ¬ (p2 < 0)) (h2 : (6 ≤ p2)) (h3 : gsX_X9_advance_1 NF v2 f2 = (v12, f13)) : gsX_X6_name_1_L2 NF p2 (n2 + 1) l3_2 v2 f2 = (1, v12, f13) := by
  simp only [gsX_X6_name_1_L2, if_pos h0, if_neg h1, if_pos h2, h3]
theorem gsX_X6_name_1_q2 {NF : Nat} {p2 : Int32} {n2 : Nat} {l3_2 : Int32} {v2 : Nat → Int32} {f2 : Nat → Nat → Int32} {f14 : Nat → Nat → Int32} {v16 : Nat → Int32} {f17 : Nat → Nat → Int32} (h0 : (p2 ≤ l3_2)) (h1 : ¬ (p2 < 0)) (h2 : ¬ (6 ≤ p2)) (h3 : f14 = upd2 f2 7 (upd (f2 7) p2.toNatClampNeg (v2 3))) (h4 : gsX_X9_advance_1 NF v2 f14 = (v16, f17)) : gsX_X6_name_1_L2 NF p2 (n2 + 1) l3_2 v2 f2 = (1, v16, f17) := by
  subst h3
  simp only [gsX_X6_name_1_L2, if_pos h0, if_neg h1, if_neg h2, h4]
theorem gsX_X6_name_1_q3 {NF : Nat} {p2 : Int32} {n2 : Nat} {l3_2 : Int32} {v2 : Nat → Int32} {f2 : Nat → Nat → Int32} {v23 : Nat → Int32} {f24 : Nat → Nat → Int32} (h0 : ¬ (p2 ≤ l3_2)) (h1 : (6 ≤ l3_2)) (h2 : (p2 < 0)) (h3 : gsX_X9_advance_1 NF v2 f2 = (v23, f24)) : gsX_X6_name_1_L2 NF p2 (n2 + 1) l3_2 v2 f2 = (1, v23, f24) := by
  simp only [gsX_X6_name_1_L2, if_neg h0, if_pos h1, if_pos h2, h3]
theorem gsX_X6_name_1_q4 {NF : Nat} {p2 : Int32} {n2 : Nat} {l3_2 : Int32} {v2 : Nat → Int32} {f2 : Nat → Nat → Int32} {v27 : Nat → Int32} {f28 : Nat → Nat → Int32} (h0 : ¬ (p2 ≤ l3_2)) (h1 : (6 ≤ l3_2)) (h2 : ¬ (p2 < 0)) (h3 : (6 ≤ p2)) (h4 : gsX_X9_advance_1 NF v2 f2 = (v27, f28)) : gsX_X6_name_1_L2 NF p2 (n2 + 1) l3_2 v2 f2 = (1, v27, f28) := by
  simp only [gsX_X6_name_1_L2, if_neg h0, if_pos h1, if_neg h2, if_pos h3, h4]
theorem gsX_X6_name_1_q5 {NF : Nat} {p2 : Int32} {n2 : Nat} {l3_2 : Int32} {v2 : Nat → Int32} {f2 : Nat → Nat → Int32} {f29 : Nat → Nat → Int32} {v31 : Nat → Int32} {f32 : Nat → Nat → Int32} (h0 : ¬ (p2 ≤ l3_2)) (h1 : (6 ≤ l3_2)) (h2 : ¬ (p2 < 0)) (h3 : ¬ (6 ≤ p2)) (h4 : f29 = upd2 f2 7 (upd (f2 7) p2.toNatClampNeg (v2 3))) (h5 : gsX_X9_advance_1 NF v2 f29 = (v31, f32)) : gsX_X6_name_1_L2 NF p2 (n2 + 1) l3_2 v2 f2 = (1, v31, f32) := by
  subst h4
  simp only [gsX_X6_name_1_L2, if_neg h0, if_pos h1, if_neg h2, if_neg h3, h5]
theorem gsX_X6_name_1_q6 {NF : Nat} {p2 : Int32} {n2 : Nat} {l3_2 : Int32} {v2 : Nat → Int32} {f2 : Nat → Nat → Int32} {t33 : Int32} {v39 : Nat → Int32} {f40 : Nat → Nat → Int32} (h0 : ¬ (p2 ≤ l3_2)) (h1 : ¬ (6 ≤ l3_2)) (h2 : t33 = f2 7 (l3_2).toNatClampNeg) (h3 : gsX_X9_sameWord_1 NF t33 (v2 3) v2 f2 = 1) (h4 : gsX_X6_refuseAs_1 NF 3 v2 f2 = (1, v39, f40)) : gsX_X6_name_1_L2 NF p2 (n2 + 1) l3_2 v2 f2 = (1, v39, f40) := by
  subst h2
  simp only [gsX_X6_name_1_L2, if_neg h0, if_neg h1, h3, h4, ite11, ite01, if_true, if_false]
theorem gsX_X6_name_1_q7 {NF : Nat} {p2 : Int32} {n2 : Nat} {l3_2 : Int32} {v2 : Nat → Int32} {f2 : Nat → Nat → Int32} {t33 : Int32} {v39 : Nat → Int32} {f40 : Nat → Nat → Int32} (h0 : ¬ (p2 ≤ l3_2)) (h1 : ¬ (6 ≤ l3_2)) (h2 : t33 = f2 7 (l3_2).toNatClampNeg) (h3 : gsX_X9_sameWord_1 NF t33 (v2 3) v2 f2 = 1) (h4 : gsX_X6_refuseAs_1 NF 3 v2 f2 = (0, v39, f40)) : gsX_X6_name_1_L2 NF p2 (n2 + 1) l3_2 v2 f2 = (0, v39, f40) := by
  subst h2
  simp only [gsX_X6_name_1_L2, if_neg h0, if_neg h1, h3, h4, ite11, ite01, if_true, if_false]
theorem gsX_X6_name_1_q8 {NF : Nat} {p2 : Int32} {n2 : Nat} {l3_2 : Int32} {v2 : Nat → Int32} {f2 : Nat → Nat → Int32} {t33 : Int32} {t42 : Int32} (h0 : ¬ (p2 ≤ l3_2)) (h1 : ¬ (6 ≤ l3_2)) (h2 : t33 = f2 7 (l3_2).toNatClampNeg) (h3 : gsX_X9_sameWord_1 NF t33 (v2 3) v2 f2 = 0) (h4 : t42 = l3_2 + 1) : gsX_X6_name_1_L2 NF p2 (n2 + 1) l3_2 v2 f2 = gsX_X6_name_1_L2 NF p2 n2 t42 v2 f2 := by
  subst h2 h4
  simp only [gsX_X6_name_1_L2, if_neg h0, if_neg h1, h3, ite11, ite01, if_true, if_false]
