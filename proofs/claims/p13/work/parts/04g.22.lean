def gsX_X6_read_1_L7 (NF : Nat) : Nat → (Int32) → (Nat → Int32) → (Nat → Nat → Int32) → Int32 × (Nat → Int32) × (Nat → Nat → Int32)
  | 0, _, _, _ => (0, (fun _ => 0), (fun _ _ => 0))
  | n7 + 1, l1_7, v7, f7 =>
    if 1600 ≤ l1_7 then
      (1, v7, f7)
    else
      if (v7 2) = 0 then
        (1, v7, f7)
      else
        match gsX_X6_line_1 NF v7 f7 with
        | (r10, v12, f13) =>
          if r10 = 1 then
            let t15 : Int32 := l1_7 + 1
            gsX_X6_read_1_L7 NF n7 t15 v12 f13
          else
            (0, v12, f13)
def gsX_X6_read_1 (NF : Nat) (v : Nat → Int32) (f : Nat → Nat → Int32) : Int32 × (Nat → Int32) × (Nat → Nat → Int32) :=
  match gsX_X7_clear_1 NF v f with
  | (v2, f3) =>
    match gsX_X9_rewind_1 NF (upd (upd (upd v2 6 0) 7 0) 8 (-1)) f3 with
    | (v5, f6) =>
      gsX_X6_read_1_L7 NF (4294967296 + NF) 0 v5 f6
theorem gsX_X6_read_1_q4 {NF : Nat} {v : Nat → Int32} {f : Nat → Nat → Int32} {v2 : Nat → Int32} {f3 : Nat → Nat → Int32} {v5 : Nat → Int32} {f6 : Nat → Nat → Int32} (h0 : gsX_X7_clear_1 NF v f = (v2, f3)) (h1 : gsX_X9_rewind_1 NF (upd (upd (upd v2 6 0) 7 0) 8 (-1)) f3 = (v5, f6)) : gsX_X6_read_1 NF v f = gsX_X6_read_1_L7 NF (4294967296 + NF) 0 v5 f6 := by
  simp only [gsX_X6_read_1, h0, h1]
theorem gsX_X6_read_1_q0 {NF : Nat} {n7 : Nat} {l1_7 : Int32} {v7 : Nat → Int32} {f7 : Nat → Nat → Int32} (h0 : (1600 ≤ l1_7)) : gsX_X6_read_1_L7 NF (n7 + 1) l1_7 v7 f7 = (1, v7, f7) := by
  simp only [gsX_X6_read_1_L7, if_pos h0]
theorem gsX_X6_read_1_q1 {NF : Nat} {n7 : Nat} {l1_7 : Int32} {v7 : Nat → Int32} {f7 : Nat → Nat → Int32} (h0 : ¬ (1600 ≤ l1_7)) (h1 : ((v7 2) = 0)) : gsX_X6_read_1_L7 NF (n7 + 1) l1_7 v7 f7 = (1, v7, f7) := by
  simp only [gsX_X6_read_1_L7, if_neg h0, if_pos h1]
theorem gsX_X6_read_1_q2 {NF : Nat} {n7 : Nat} {l1_7 : Int32} {v7 : Nat → Int32} {f7 : Nat → Nat → Int32} {v12 : Nat → Int32} {f13 : Nat → Nat → Int32} {t15 : Int32} (h0 : ¬ (1600 ≤ l1_7)) (h1 : ¬ ((v7 2) = 0)) (h2 : gsX_X6_line_1 NF v7 f7 = (1, v12, f13)) (h4 : t15 = l1_7 + 1) : gsX_X6_read_1_L7 NF (n7 + 1) l1_7 v7 f7 = gsX_X6_read_1_L7 NF n7 t15 v12 f13 := by
  subst h4
  simp only [gsX_X6_read_1_L7, if_neg h0, if_neg h1, h2, ite11, ite01, if_true, if_false]
theorem gsX_X6_read_1_q3 {NF : Nat} {n7 : Nat} {l1_7 : Int32} {v7 : Nat → Int32} {f7 : Nat → Nat → Int32} {v12 : Nat → Int32} {f13 : Nat → Nat → Int32} (h0 : ¬ (1600 ≤ l1_7)) (h1 : ¬ ((v7 2) = 0)) (h2 : gsX_X6_line_1 NF v7 f7 = (0, v12, f13)) : gsX_X6_read_1_L7 NF (n7 + 1) l1_7 v7 f7 = (0, v12, f13) := by
  simp only [gsX_X6_read_1_L7, if_neg h0, if_neg h1, h2, ite11, ite01, if_true, if_false]
def gsX_X4_copy_1 (NF : Nat) (v : Nat → Int32) (f : Nat → Nat → Int32) : (Nat → Int32) × (Nat → Nat → Int32) :=
  let f1 : Nat → Nat → Int32 := upd2 f 11 (va_cpy (f 3) (f 11) (0 : Int32).toNatClampNeg (0 : Int32).toNatClampNeg (300 : Int32).toNatClampNeg)
  let f2 : Nat → Nat → Int32 := upd2 f1 12 (va_cpy (f1 4) (f1 12) (0 : Int32).toNatClampNeg (0 : Int32).toNatClampNeg (300 : Int32).toNatClampNeg)
  ((upd (upd v 18 (v 16)) 19 (v 17)), f2)
theorem gsX_X4_copy_1_q0 {NF : Nat} {v : Nat → Int32} {f : Nat → Nat → Int32} {f1 : Nat → Nat → Int32} {f2 : Nat → Nat → Int32} (h0 : f1 = upd2 f 11 (va_cpy (f 3) (f 11) (0 : Int32).toNatClampNeg (0 : Int32).toNatClampNeg (300 : Int32).toNatClampNeg)) (h1 : f2 = upd2 f1 12 (va_cpy (f1 4) (f1 12) (0 : Int32).toNatClampNeg (0 : Int32).toNatClampNeg (300 : Int32).toNatClampNeg)) : gsX_X4_copy_1 NF v f = ((upd (upd v 18 (v 16)) 19 (v 17)), f2) := by
  subst h0 h1
  simp only [gsX_X4_copy_1]
def gsX_X7_copy_1 (NF : Nat) (v : Nat → Int32) (f : Nat → Nat → Int32) : (Nat → Int32) × (Nat → Nat → Int32) :=
  let f1 : Nat → Nat → Int32 := upd2 f 9 (va_cpy (f 1) (f 9) (0 : Int32).toNatClampNeg (0 : Int32).toNatClampNeg (18 : Int32).toNatClampNeg)
  let f2 : Nat → Nat → Int32 := upd2 f1 10 (va_cpy (f1 2) (f1 10) (0 : Int32).toNatClampNeg (0 : Int32).toNatClampNeg (24 : Int32).toNatClampNeg)
  match gsX_X4_copy_1 NF v f2 with
  | (v4, f5) =>
    ((upd (upd (upd (upd (upd (upd (upd v4 31 (v 9)) 32 (v 10)) 33 (v4 11)) 34 (v4 12)) 35 (v4 13)) 36 (v4 14)) 37 (v4 15)), f5)
theorem gsX_X7_copy_1_q0 {NF : Nat} {v : Nat → Int32} {f : Nat → Nat → Int32} {f1 : Nat → Nat → Int32} {f2 : Nat → Nat → Int32} {v4 : Nat → Int32} {f5 : Nat → Nat → Int32} (h0 : f1 = upd2 f 9 (va_cpy (f 1) (f 9) (0 : Int32).toNatClampNeg (0 : Int32).toNatClampNeg (18 : Int32).toNatClampNeg)) (h1 : f2 = upd2 f1 10 (va_cpy (f1 2) (f1 10) (0 : Int32).toNatClampNeg (0 : Int32).toNatClampNeg (24 : Int32).toNatClampNeg)) (h2 : gsX_X4_copy_1 NF v f2 = (v4, f5)) : gsX_X7_copy_1 NF v f = ((upd (upd (upd (upd (upd (upd (upd v4 31 (v 9)) 32 (v 10)) 33 (v4 11)) 34 (v4 12)) 35 (v4 13)) 36 (v4 14)) 37 (v4 15)), f5) := by
  subst h0 h1
  simp only [gsX_X7_copy_1, h2]
def gsX_X7_hasCoat_1 (NF : Nat) (p1 : Int32) (v : Nat → Int32) (f : Nat → Nat → Int32) : Int32 :=
  if p1 < 0 then
    0
  else
    if (v 32) ≤ p1 then
      0
    else
      1
theorem gsX_X7_hasCoat_1_q0 {NF : Nat} {p1 : Int32} {v : Nat → Int32} {f : Nat → Nat → Int32} (h0 : (p1 < 0)) : gsX_X7_hasCoat_1 NF p1 v f = 0 := by
  simp only [gsX_X7_hasCoat_1, if_pos h0]
theorem gsX_X7_hasCoat_1_q1 {NF : Nat} {p1 : Int32} {v : Nat → Int32} {f : Nat → Nat → Int32} (h0 : ¬ (p1 < 0)) (h1 : ((v 32) ≤ p1)) : gsX_X7_hasCoat_1 NF p1 v f = 0 := by
  simp only [gsX_X7_hasCoat_1, if_neg h0, if_pos h1]
theorem gsX_X7_hasCoat_1_q2 {NF : Nat} {p1 : Int32} {v : Nat → Int32} {f : Nat → Nat → Int32} (h0 : ¬ (p1 < 0)) (h1 : ¬ ((v 32) ≤ p1)) : gsX_X7_hasCoat_1 NF p1 v f = 1 := by
  simp only [gsX_X7_hasCoat_1, if_neg h0, if_neg h1]
def gsX_X7_coatPart_1 (NF : Nat) (p1 : Int32) (p2 : Int32) (v : Nat → Int32) (f : Nat → Nat → Int32) : Int32 :=
  if gsX_X7_hasCoat_1 NF p2 v f = 1 then
    if p1 < 0 then
      0
    else
      if 4 ≤ p1 then
        0
      else
        let t6 : Int32 := p1 * 6
        let t8 : Int32 := t6 + p2
        let t11 : Int32 := f 10 (t8).toNatClampNeg
        t11
  else
    0
theorem gsX_X7_coatPart_1_q0 {NF : Nat} {p1 : Int32} {p2 : Int32} {v : Nat → Int32} {f : Nat → Nat → Int32} (h0 : gsX_X7_hasCoat_1 NF p2 v f = 1) (h1 : (p1 < 0)) : gsX_X7_coatPart_1 NF p1 p2 v f = 0 := by
  simp only [gsX_X7_coatPart_1, h0, if_pos h1, ite11, ite01, if_true, if_false]
theorem gsX_X7_coatPart_1_q1 {NF : Nat} {p1 : Int32} {p2 : Int32} {v : Nat → Int32} {f : Nat → Nat → Int32} (h0 : gsX_X7_hasCoat_1 NF p2 v f = 1) (h1 : ¬ (p1 < 0)) (h2 : (4 ≤ p1)) : gsX_X7_coatPart_1 NF p1 p2 v f = 0 := by
  simp only [gsX_X7_coatPart_1, h0, if_neg h1, if_pos h2, ite11, ite01, if_true, if_false]
theorem gsX_X7_coatPart_1_q2 {NF : Nat} {p1 : Int32} {p2 : Int32} {v : Nat → Int32} {f : Nat → Nat → Int32} {t6 : Int32} {t8 : Int32} {t11 : Int32} (h0 : gsX_X7_hasCoat_1 NF p2 v f = 1) (h1 : ¬ (p1 < 0)) (h2 : ¬ (4 ≤ p1)) (h3 : t6 = p1 * 6) (h4 : t8 = t6 + p2) (h5 : t11 = f 10 (t8).toNatClampNeg) : gsX_X7_coatPart_1 NF p1 p2 v f = t11 := by
  subst h3 h4 h5
  simp only [gsX_X7_coatPart_1, h0, if_neg h1, if_neg h2, ite11, ite01, if_true, if_false]
theorem gsX_X7_coatPart_1_q3 {NF : Nat} {p1 : Int32} {p2 : Int32} {v : Nat → Int32} {f : Nat → Nat → Int32} (h0 : gsX_X7_hasCoat_1 NF p2 v f = 0) : gsX_X7_coatPart_1 NF p1 p2 v f = 0 := by
  simp only [gsX_X7_coatPart_1, h0, ite11, ite01, if_true, if_false]
def gsX_X7_hasMan_1 (NF : Nat) (p1 : Int32) (v : Nat → Int32) (f : Nat → Nat → Int32) : Int32 :=
  if p1 < 0 then
    0
  else
    if (v 31) ≤ p1 then
      0
    else
      1
theorem gsX_X7_hasMan_1_q0 {NF : Nat} {p1 : Int32} {v : Nat → Int32} {f : Nat → Nat → Int32} (h0 : (p1 < 0)) : gsX_X7_hasMan_1 NF p1 v f = 0 := by
  simp only [gsX_X7_hasMan_1, if_pos h0]
theorem gsX_X7_hasMan_1_q1 {NF : Nat} {p1 : Int32} {v : Nat → Int32} {f : Nat → Nat → Int32} (h0 : ¬ (p1 < 0)) (h1 : ((v 31) ≤ p1)) : gsX_X7_hasMan_1 NF p1 v f = 0 := by
  simp only [gsX_X7_hasMan_1, if_neg h0, if_pos h1]
theorem gsX_X7_hasMan_1_q2 {NF : Nat} {p1 : Int32} {v : Nat → Int32} {f : Nat → Nat → Int32} (h0 : ¬ (p1 < 0)) (h1 : ¬ ((v 31) ≤ p1)) : gsX_X7_hasMan_1 NF p1 v f = 1 := by
  simp only [gsX_X7_hasMan_1, if_neg h0, if_neg h1]
def gsX_X7_manPart_1 (NF : Nat) (p1 : Int32) (p2 : Int32) (v : Nat → Int32) (f : Nat → Nat → Int32) : Int32 :=
  if gsX_X7_hasMan_1 NF p2 v f = 1 then
    if p1 < 0 then
      0
    else
      if 3 ≤ p1 then
        0
      else
        let t6 : Int32 := p1 * 6
        let t8 : Int32 := t6 + p2
        let t11 : Int32 := f 9 (t8).toNatClampNeg
        t11
  else
    0
theorem gsX_X7_manPart_1_q0 {NF : Nat} {p1 : Int32} {p2 : Int32} {v : Nat → Int32} {f : Nat → Nat → Int32} (h0 : gsX_X7_hasMan_1 NF p2 v f = 1) (h1 : (p1 < 0)) : gsX_X7_manPart_1 NF p1 p2 v f = 0 := by
  simp only [gsX_X7_manPart_1, h0, if_pos h1, ite11, ite01, if_true, if_false]
theorem gsX_X7_manPart_1_q1 {NF : Nat} {p1 : Int32} {p2 : Int32} {v : Nat → Int32} {f : Nat → Nat → Int32} (h0 : gsX_X7_hasMan_1 NF p2 v f = 1) (h1 : ¬ (p1 < 0)) (h2 : (3 ≤ p1)) : gsX_X7_manPart_1 NF p1 p2 v f = 0 := by
  simp only [gsX_X7_manPart_1, h0, if_neg h1, if_pos h2, ite11, ite01, if_true, if_false]
theorem gsX_X7_manPart_1_q2 {NF : Nat} {p1 : Int32} {p2 : Int32} {v : Nat → Int32} {f : Nat → Nat → Int32} {t6 : Int32} {t8 : Int32} {t11 : Int32} (h0 : gsX_X7_hasMan_1 NF p2 v f = 1) (h1 : ¬ (p1 < 0)) (h2 : ¬ (3 ≤ p1)) (h3 : t6 = p1 * 6) (h4 : t8 = t6 + p2) (h5 : t11 = f 9 (t8).toNatClampNeg) : gsX_X7_manPart_1 NF p1 p2 v f = t11 := by
  subst h3 h4 h5
  simp only [gsX_X7_manPart_1, h0, if_neg h1, if_neg h2, ite11, ite01, if_true, if_false]
theorem gsX_X7_manPart_1_q3 {NF : Nat} {p1 : Int32} {p2 : Int32} {v : Nat → Int32} {f : Nat → Nat → Int32} (h0 : gsX_X7_hasMan_1 NF p2 v f = 0) : gsX_X7_manPart_1 NF p1 p2 v f = 0 := by
  simp only [gsX_X7_manPart_1, h0, ite11, ite01, if_true, if_false]
def gsX_X1_muster_1_L7 (NF : Nat) (l1_3 : Int32) (k3 : Int32 → (Nat → Int32) → (Nat → Nat → Int32) → ((Nat → Int32) × (Nat → Nat → Int32))) : Nat → (Int32) → (Nat → Int32) → (Nat → Nat → Int32) → (Nat → Int32) × (Nat → Nat → Int32)
  | 0, _, _, _ => ((fun _ => 0), (fun _ _ => 0))
  | n7 + 1, l2_7, v7, f7 =>
    if 5 ≤ l2_7 then
      let t9 : Int32 := l1_3 + 1
      k3 t9 v7 f7
    else
      let t12 : Int32 := l2_7 * 6
      let t14 : Int32 := 12 + t12
      let t16 : Int32 := t14 + l1_3
      let r19 : Int32 := gsX_X7_coatPart_1 NF l2_7 l1_3 v7 f7
      let f21 : Nat → Nat → Int32 := upd2 f7 15 (upd (f7 15) t16.toNatClampNeg r19)
      let t22 : Int32 := l2_7 + 1
      gsX_X1_muster_1_L7 NF l1_3 k3 n7 t22 v7 f21
def gsX_X1_muster_1_L3 (NF : Nat) : Nat → (Int32) → (Nat → Int32) → (Nat → Nat → Int32) → (Nat → Int32) × (Nat → Nat → Int32)
  | 0, _, _, _ => ((fun _ => 0), (fun _ _ => 0))
  | n3 + 1, l1_3, v3, f3 =>
    if 6 ≤ l1_3 then
      let f5 : Nat → Nat → Int32 := upd2 f3 15 (upd (f3 15) (42 : Int32).toNatClampNeg 0)
      let f6 : Nat → Nat → Int32 := upd2 f5 15 (upd (f5 15) (43 : Int32).toNatClampNeg (v3 37))
      (v3, f6)
    else
      gsX_X1_muster_1_L7 NF l1_3 (fun z0 z1 z2 => gsX_X1_muster_1_L3 NF n3 z0 z1 z2) (4294967296 + NF) 0 v3 f3
def gsX_X1_muster_1_L1 (NF : Nat) : Nat → (Int32) → (Nat → Int32) → (Nat → Nat → Int32) → (Nat → Int32) × (Nat → Nat → Int32)
  | 0, _, _, _ => ((fun _ => 0), (fun _ _ => 0))
  | n1 + 1, l1_1, v1, f1 =>
    if 6 ≤ l1_1 then
      gsX_X1_muster_1_L3 NF (4294967296 + NF) 0 v1 f1
    else
      let r24 : Int32 := gsX_X7_manPart_1 NF 1 l1_1 v1 f1
      let f26 : Nat → Nat → Int32 := upd2 f1 15 (upd (f1 15) l1_1.toNatClampNeg r24)
      let t27 : Int32 := 6 + l1_1
      let f29 : Nat → Nat → Int32 := upd2 f26 15 (upd (f26 15) t27.toNatClampNeg (-1))
      let t30 : Int32 := l1_1 + 1
      gsX_X1_muster_1_L1 NF n1 t30 v1 f29
def gsX_X1_muster_1 (NF : Nat) (v : Nat → Int32) (f : Nat → Nat → Int32) : (Nat → Int32) × (Nat → Nat → Int32) :=
  gsX_X1_muster_1_L1 NF (4294967296 + NF) 0 v f
theorem gsX_X1_muster_1_q6 {NF : Nat} {v : Nat → Int32} {f : Nat → Nat → Int32}  : gsX_X1_muster_1 NF v f = gsX_X1_muster_1_L1 NF (4294967296 + NF) 0 v f := by
  simp only [gsX_X1_muster_1]
theorem gsX_X1_muster_1_q4 {NF : Nat} {n1 : Nat} {l1_1 : Int32} {v1 : Nat → Int32} {f1 : Nat → Nat → Int32} (h0 : (6 ≤ l1_1)) : gsX_X1_muster_1_L1 NF (n1 + 1) l1_1 v1 f1 = gsX_X1_muster_1_L3 NF (4294967296 + NF) 0 v1 f1 := by
  simp only [gsX_X1_muster_1_L1, if_pos h0]
theorem gsX_X1_muster_1_q5 {NF : Nat} {n1 : Nat} {l1_1 : Int32} {v1 : Nat → Int32} {f1 : Nat → Nat → Int32} {r24 : Int32} {f26 : Nat → Nat → Int32} {t27 : Int32} {f29 : Nat → Nat → Int32} {t30 : Int32} (h0 : ¬ (6 ≤ l1_1)) (h1 : r24 = gsX_X7_manPart_1 NF 1 l1_1 v1 f1) (h2 : f26 = upd2 f1 15 (upd (f1 15) l1_1.toNatClampNeg r24)) (h3 : t27 = 6 + l1_1) (h4 : f29 = upd2 f26 15 (upd (f26 15) t27.toNatClampNeg (-1))) (h5 : t30 = l1_1 + 1) : gsX_X1_muster_1_L1 NF (n1 + 1) l1_1 v1 f1 = gsX_X1_muster_1_L1 NF n1 t30 v1 f29 := by
  subst h1 h2 h3 h4 h5
  simp only [gsX_X1_muster_1_L1, if_neg h0]
theorem gsX_X1_muster_1_q0 {NF : Nat} {n3 : Nat} {l1_3 : Int32} {v3 : Nat → Int32} {f3 : Nat → Nat → Int32} {f5 : Nat → Nat → Int32} {f6 : Nat → Nat → Int32} (h0 : (6 ≤ l1_3)) (h1 : f5 = upd2 f3 15 (upd (f3 15) (42 : Int32).toNatClampNeg 0)) (h2 : f6 = upd2 f5 15 (upd (f5 15) (43 : Int32).toNatClampNeg (v3 37))) : gsX_X1_muster_1_L3 NF (n3 + 1) l1_3 v3 f3 = (v3, f6) := by
  subst h1 h2
  simp only [gsX_X1_muster_1_L3, if_pos h0]
theorem gsX_X1_muster_1_q3 {NF : Nat} {n3 : Nat} {l1_3 : Int32} {v3 : Nat → Int32} {f3 : Nat → Nat → Int32} (h0 : ¬ (6 ≤ l1_3)) : gsX_X1_muster_1_L3 NF (n3 + 1) l1_3 v3 f3 = gsX_X1_muster_1_L7 NF l1_3 (fun z0 z1 z2 => gsX_X1_muster_1_L3 NF n3 z0 z1 z2) (4294967296 + NF) 0 v3 f3 := by
  simp only [gsX_X1_muster_1_L3, if_neg h0]
theorem gsX_X1_muster_1_q1 {NF : Nat} {l1_3 : Int32} {n7 : Nat} {l2_7 : Int32} {v7 : Nat → Int32} {f7 : Nat → Nat → Int32} {t9 : Int32} {k3 : Int32 → (Nat → Int32) → (Nat → Nat → Int32) → ((Nat → Int32) × (Nat → Nat → Int32))} (h0 : (5 ≤ l2_7)) (h1 : t9 = l1_3 + 1) : gsX_X1_muster_1_L7 NF l1_3 k3 (n7 + 1) l2_7 v7 f7 = k3 t9 v7 f7 := by
  subst h1
  simp only [gsX_X1_muster_1_L7, if_pos h0]
theorem gsX_X1_muster_1_q2 {NF : Nat} {l1_3 : Int32} {n7 : Nat} {l2_7 : Int32} {v7 : Nat → Int32} {f7 : Nat → Nat → Int32} {t12 : Int32} {t14 : Int32} {t16 : Int32} {r19 : Int32} {f21 : Nat → Nat → Int32} {t22 : Int32} {k3 : Int32 → (Nat → Int32) → (Nat → Nat → Int32) → ((Nat → Int32) × (Nat → Nat → Int32))} (h0 : ¬ (5 ≤ l2_7)) (h1 : t12 = l2_7 * 6) (h2 : t14 = 12 + t12) (h3 : t16 = t14 + l1_3) (h4 : r19 = gsX_X7_coatPart_1 NF l2_7 l1_3 v7 f7) (h5 : f21 = upd2 f7 15 (upd (f7 15) t16.toNatClampNeg r19)) (h6 : t22 = l2_7 + 1) : gsX_X1_muster_1_L7 NF l1_3 k3 (n7 + 1) l2_7 v7 f7 = gsX_X1_muster_1_L7 NF l1_3 k3 n7 t22 v7 f21 := by
  subst h1 h2 h3 h4 h5 h6
  simp only [gsX_X1_muster_1_L7, if_neg h0]
def gsX_X1_saveTo_1 (NF : Nat) (p2 : Int32) (v : Nat → Int32) (f : Nat → Nat → Int32) : (Nat → Int32) × (Nat → Nat → Int32) :=
  if p2 < 0 then
    (v, f)
  else
    if 41 ≤ p2 then
      (v, f)
    else
      let t3 : Int32 := p2 * 44
      let f5 : Nat → Nat → Int32 := upd2 f 17 (va_cpy (f 15) (f 17) (0 : Int32).toNatClampNeg (t3).toNatClampNeg (44 : Int32).toNatClampNeg)
      (v, f5)
theorem gsX_X1_saveTo_1_q0 {NF : Nat} {p2 : Int32} {v : Nat → Int32} {f : Nat → Nat → Int32} (h0 : (p2 < 0)) : gsX_X1_saveTo_1 NF p2 v f = (v, f) := by
  simp only [gsX_X1_saveTo_1, if_pos h0]
theorem gsX_X1_saveTo_1_q1 {NF : Nat} {p2 : Int32} {v : Nat → Int32} {f : Nat → Nat → Int32} (h0 : ¬ (p2 < 0)) (h1 : (41 ≤ p2)) : gsX_X1_saveTo_1 NF p2 v f = (v, f) := by
  simp only [gsX_X1_saveTo_1, if_neg h0, if_pos h1]
theorem gsX_X1_saveTo_1_q2 {NF : Nat} {p2 : Int32} {v : Nat → Int32} {f : Nat → Nat → Int32} {t3 : Int32} {f5 : Nat → Nat → Int32} (h0 : ¬ (p2 < 0)) (h1 : ¬ (41 ≤ p2)) (h2 : t3 = p2 * 44) (h3 : f5 = upd2 f 17 (va_cpy (f 15) (f 17) (0 : Int32).toNatClampNeg (t3).toNatClampNeg (44 : Int32).toNatClampNeg)) : gsX_X1_saveTo_1 NF p2 v f = (v, f5) := by
  subst h2 h3
  simp only [gsX_X1_saveTo_1, if_neg h0, if_neg h1]
