def gsY_X11_fittedOnes_1_L1 (NF : Nat) (v : Nat → Int32) : Nat → (Int32) → (Int32) → (Nat → Int32) → (Nat → Nat → Int32) → (Int64) → (Nat → Int64) → Int32 × (Nat → Int32) × (Nat → Nat → Int32) × (Int64) × (Nat → Int64)
  | 0, _, _, _, _, _, _ => (0, (fun _ => 0), (fun _ _ => 0), 0, (fun _ => 0))
  | n1 + 1, l1_1, l2_1, v1, f1, w1, g1 =>
    if (v 24) ≤ l2_1 then
      (l1_1, v1, f1, w1, g1)
    else
      match gsY_X11_fitsOwn_1 NF l2_1 v1 f1 w1 g1 with
      | (r7, v9, f10, w11, g12) =>
        if r7 = 1 then
          let r15 : Int32 := gsY_X11_truth_1 NF 1 v9 f10 w11 g12
          let t17 : Int32 := r15 <<< (l2_1 &&& 31)
          let t18 : Int32 := l1_1 ||| t17
          let t19 : Int32 := l2_1 + 1
          gsY_X11_fittedOnes_1_L1 NF v n1 t18 t19 v9 f10 w11 g12
        else
          let r22 : Int32 := gsY_X11_truth_1 NF 0 v9 f10 w11 g12
          let t24 : Int32 := r22 <<< (l2_1 &&& 31)
          let t25 : Int32 := l1_1 ||| t24
          let t26 : Int32 := l2_1 + 1
          gsY_X11_fittedOnes_1_L1 NF v n1 t25 t26 v9 f10 w11 g12
def gsY_X11_fittedOnes_1 (NF : Nat) (v : Nat → Int32) (f : Nat → Nat → Int32) (w : Int64) (g : Nat → Int64) : Int32 × (Nat → Int32) × (Nat → Nat → Int32) × (Int64) × (Nat → Int64) :=
  gsY_X11_fittedOnes_1_L1 NF v (4294967296 + NF) 0 0 v f w g
theorem gsY_X11_fittedOnes_1_q3 {NF : Nat} {v : Nat → Int32} {f : Nat → Nat → Int32} {w : Int64} {g : Nat → Int64}  : gsY_X11_fittedOnes_1 NF v f w g = gsY_X11_fittedOnes_1_L1 NF v (4294967296 + NF) 0 0 v f w g := by
  simp only [gsY_X11_fittedOnes_1]
theorem gsY_X11_fittedOnes_1_q0 {NF : Nat} {v : Nat → Int32} {n1 : Nat} {l1_1 : Int32} {l2_1 : Int32} {v1 : Nat → Int32} {f1 : Nat → Nat → Int32} {w1 : Int64} {g1 : Nat → Int64} (h0 : ((v 24) ≤ l2_1)) : gsY_X11_fittedOnes_1_L1 NF v (n1 + 1) l1_1 l2_1 v1 f1 w1 g1 = (l1_1, v1, f1, w1, g1) := by
  simp only [gsY_X11_fittedOnes_1_L1, if_pos h0]
theorem gsY_X11_fittedOnes_1_q1 {NF : Nat} {v : Nat → Int32} {n1 : Nat} {l1_1 : Int32} {l2_1 : Int32} {v1 : Nat → Int32} {f1 : Nat → Nat → Int32} {w1 : Int64} {g1 : Nat → Int64} {v9 : Nat → Int32} {f10 : Nat → Nat → Int32} {w11 : Int64} {g12 : Nat → Int64} {r15 : Int32} {t17 : Int32} {t18 : Int32} {t19 : Int32} (h0 : ¬ ((v 24) ≤ l2_1)) (h1 : gsY_X11_fitsOwn_1 NF l2_1 v1 f1 w1 g1 = (1, v9, f10, w11, g12)) (h3 : r15 = gsY_X11_truth_1 NF 1 v9 f10 w11 g12) (h4 : t17 = r15 <<< (l2_1 &&& 31)) (h5 : t18 = l1_1 ||| t17) (h6 : t19 = l2_1 + 1) : gsY_X11_fittedOnes_1_L1 NF v (n1 + 1) l1_1 l2_1 v1 f1 w1 g1 = gsY_X11_fittedOnes_1_L1 NF v n1 t18 t19 v9 f10 w11 g12 := by
  subst h3 h4 h5 h6
  simp only [gsY_X11_fittedOnes_1_L1, if_neg h0, h1, ite11, ite01, if_true, if_false]
theorem gsY_X11_fittedOnes_1_q2 {NF : Nat} {v : Nat → Int32} {n1 : Nat} {l1_1 : Int32} {l2_1 : Int32} {v1 : Nat → Int32} {f1 : Nat → Nat → Int32} {w1 : Int64} {g1 : Nat → Int64} {v9 : Nat → Int32} {f10 : Nat → Nat → Int32} {w11 : Int64} {g12 : Nat → Int64} {r22 : Int32} {t24 : Int32} {t25 : Int32} {t26 : Int32} (h0 : ¬ ((v 24) ≤ l2_1)) (h1 : gsY_X11_fitsOwn_1 NF l2_1 v1 f1 w1 g1 = (0, v9, f10, w11, g12)) (h3 : r22 = gsY_X11_truth_1 NF 0 v9 f10 w11 g12) (h4 : t24 = r22 <<< (l2_1 &&& 31)) (h5 : t25 = l1_1 ||| t24) (h6 : t26 = l2_1 + 1) : gsY_X11_fittedOnes_1_L1 NF v (n1 + 1) l1_1 l2_1 v1 f1 w1 g1 = gsY_X11_fittedOnes_1_L1 NF v n1 t25 t26 v9 f10 w11 g12 := by
  subst h3 h4 h5 h6
  simp only [gsY_X11_fittedOnes_1_L1, if_neg h0, h1, ite11, ite01, if_true, if_false]
def gsY_X11_wearer_1_L1 (NF : Nat) (p1 : Int32) (v : Nat → Int32) (f : Nat → Nat → Int32) : Nat → (Int32) → (Int32) → Int32
  | 0, _, _ => 0
  | n1 + 1, l2_1, l3_1 =>
    if (v 24) ≤ l3_1 then
      l2_1
    else
      let t7 : Int32 := 6 + l3_1
      let t8 : Int32 := f 24 (t7).toNatClampNeg
      if t8 = p1 then
        let t16 : Int32 := l3_1 + 1
        gsY_X11_wearer_1_L1 NF p1 v f n1 l3_1 t16
      else
        let t12 : Int32 := l3_1 + 1
        gsY_X11_wearer_1_L1 NF p1 v f n1 l2_1 t12
def gsY_X11_wearer_1 (NF : Nat) (p1 : Int32) (v : Nat → Int32) (f : Nat → Nat → Int32) (w : Int64) (g : Nat → Int64) : Int32 :=
  gsY_X11_wearer_1_L1 NF p1 v f (4294967296 + NF) (-1) 0
theorem gsY_X11_wearer_1_q3 {NF : Nat} {p1 : Int32} {v : Nat → Int32} {f : Nat → Nat → Int32} {w : Int64} {g : Nat → Int64}  : gsY_X11_wearer_1 NF p1 v f w g = gsY_X11_wearer_1_L1 NF p1 v f (4294967296 + NF) (-1) 0 := by
  simp only [gsY_X11_wearer_1]
theorem gsY_X11_wearer_1_q0 {NF : Nat} {p1 : Int32} {v : Nat → Int32} {f : Nat → Nat → Int32} {n1 : Nat} {l2_1 : Int32} {l3_1 : Int32} (h0 : ((v 24) ≤ l3_1)) : gsY_X11_wearer_1_L1 NF p1 v f (n1 + 1) l2_1 l3_1 = l2_1 := by
  simp only [gsY_X11_wearer_1_L1, if_pos h0]
theorem gsY_X11_wearer_1_q1 {NF : Nat} {p1 : Int32} {v : Nat → Int32} {f : Nat → Nat → Int32} {n1 : Nat} {l2_1 : Int32} {l3_1 : Int32} {t7 : Int32} {t8 : Int32} {t12 : Int32} (h0 : ¬ ((v 24) ≤ l3_1)) (h1 : t7 = 6 + l3_1) (h2 : t8 = f 24 (t7).toNatClampNeg) (h3 : ¬ (t8 = p1)) (h4 : t12 = l3_1 + 1) : gsY_X11_wearer_1_L1 NF p1 v f (n1 + 1) l2_1 l3_1 = gsY_X11_wearer_1_L1 NF p1 v f n1 l2_1 t12 := by
  subst h1 h2 h4
  simp only [gsY_X11_wearer_1_L1, if_neg h0, if_neg h3]
theorem gsY_X11_wearer_1_q2 {NF : Nat} {p1 : Int32} {v : Nat → Int32} {f : Nat → Nat → Int32} {n1 : Nat} {l2_1 : Int32} {l3_1 : Int32} {t7 : Int32} {t8 : Int32} {t16 : Int32} (h0 : ¬ ((v 24) ≤ l3_1)) (h1 : t7 = 6 + l3_1) (h2 : t8 = f 24 (t7).toNatClampNeg) (h3 : (t8 = p1)) (h4 : t16 = l3_1 + 1) : gsY_X11_wearer_1_L1 NF p1 v f (n1 + 1) l2_1 l3_1 = gsY_X11_wearer_1_L1 NF p1 v f n1 l3_1 t16 := by
  subst h1 h2 h4
  simp only [gsY_X11_wearer_1_L1, if_neg h0, if_pos h3]
def gsY_X11_lesser_1 (NF : Nat) (p0 : Int32) (p1 : Int32) (v : Nat → Int32) (f : Nat → Nat → Int32) (w : Int64) (g : Nat → Int64) : Int32 :=
  if p1 ≤ p0 then
    p1
  else
    p0
theorem gsY_X11_lesser_1_q0 {NF : Nat} {p0 : Int32} {p1 : Int32} {v : Nat → Int32} {f : Nat → Nat → Int32} {w : Int64} {g : Nat → Int64} (h0 : (p1 ≤ p0)) : gsY_X11_lesser_1 NF p0 p1 v f w g = p1 := by
  simp only [gsY_X11_lesser_1, if_pos h0]
theorem gsY_X11_lesser_1_q1 {NF : Nat} {p0 : Int32} {p1 : Int32} {v : Nat → Int32} {f : Nat → Nat → Int32} {w : Int64} {g : Nat → Int64} (h0 : ¬ (p1 ≤ p0)) : gsY_X11_lesser_1 NF p0 p1 v f w g = p0 := by
  simp only [gsY_X11_lesser_1, if_neg h0]
def gsY_X11_greater_1 (NF : Nat) (p0 : Int32) (p1 : Int32) (v : Nat → Int32) (f : Nat → Nat → Int32) (w : Int64) (g : Nat → Int64) : Int32 :=
  if p0 ≤ p1 then
    p1
  else
    p0
theorem gsY_X11_greater_1_q0 {NF : Nat} {p0 : Int32} {p1 : Int32} {v : Nat → Int32} {f : Nat → Nat → Int32} {w : Int64} {g : Nat → Int64} (h0 : (p0 ≤ p1)) : gsY_X11_greater_1 NF p0 p1 v f w g = p1 := by
  simp only [gsY_X11_greater_1, if_pos h0]
theorem gsY_X11_greater_1_q1 {NF : Nat} {p0 : Int32} {p1 : Int32} {v : Nat → Int32} {f : Nat → Nat → Int32} {w : Int64} {g : Nat → Int64} (h0 : ¬ (p0 ≤ p1)) : gsY_X11_greater_1 NF p0 p1 v f w g = p0 := by
  simp only [gsY_X11_greater_1, if_neg h0]
def gsY_X11_goDay_1_L22 (NF : Nat) (v : Nat → Int32) (t21 : Int32) : Nat → (Int32) → (Nat → Int32) → (Nat → Nat → Int32) → (Int64) → (Nat → Int64) → Int32 × (Nat → Int32) × (Nat → Nat → Int32) × (Int64) × (Nat → Int64)
  | 0, _, _, _, _, _ => (0, (fun _ => 0), (fun _ _ => 0), 0, (fun _ => 0))
  | n22 + 1, l3_22, v22, f22, w22, g22 =>
    if (v 24) ≤ l3_22 then
      (t21, v22, f22, w22, g22)
    else
      let t26 : Int32 := t21 >>> (l3_22 &&& 31)
      let t27 : Int32 := t26 &&& 1
      if t27 = 1 then
        let t31 : Int32 := 6 + l3_22
        let f32 : Nat → Nat → Int32 := upd2 f22 24 (upd (f22 24) t31.toNatClampNeg (-1))
        let t33 : Int32 := l3_22 + 1
        gsY_X11_goDay_1_L22 NF v t21 n22 t33 v22 f32 w22 g22
      else
        let t29 : Int32 := l3_22 + 1
        gsY_X11_goDay_1_L22 NF v t21 n22 t29 v22 f22 w22 g22
def gsY_X11_goDay_1_L5 (NF : Nat) (p1 : Int32) (v : Nat → Int32) : Nat → (Int32) → (Nat → Int32) → (Nat → Nat → Int32) → (Int64) → (Nat → Int64) → Int32 × (Nat → Int32) × (Nat → Nat → Int32) × (Int64) × (Nat → Int64)
  | 0, _, _, _, _, _ => (0, (fun _ => 0), (fun _ _ => 0), 0, (fun _ => 0))
  | n5 + 1, l2_5, v5, f5, w5, g5 =>
    if (v 25) ≤ l2_5 then
      let t9 : Int32 := f5 24 (37 : Int32).toNatClampNeg
      let t10 : Int32 := t9 + 1
      let f11 : Nat → Nat → Int32 := upd2 f5 24 (upd (f5 24) (37 : Int32).toNatClampNeg t10)
      let r12 : Int32 := gsY_X11_wearers_1 NF v5 f11 w5 g5
      match gsY_X11_fittedOnes_1 NF v5 f11 w5 g5 with
      | (r14, v16, f17, w18, g19) =>
        let t20 : Int32 := r14 ^^^ (-1)
        let t21 : Int32 := r12 &&& t20
        gsY_X11_goDay_1_L22 NF v t21 (4294967296 + NF) 0 v16 f17 w18 g19
    else
      let r37 : Int32 := gsY_X11_wearer_1 NF l2_5 v5 f5 w5 g5
      if 0 ≤ r37 then
        let t40 : Int32 := 30 + l2_5
        let t41 : Int32 := f5 24 (t40).toNatClampNeg
        let t42 : Int32 := t41 + 1
        let r44 : Int32 := gsY_X11_lesser_1 NF 99 t42 v5 f5 w5 g5
        let f48 : Nat → Nat → Int32 := upd2 f5 24 (upd (f5 24) t40.toNatClampNeg r44)
        let t49 : Int32 := 12 + l2_5
        let t50 : Int32 := f48 24 (t49).toNatClampNeg
        let r51 : Int32 := gsY_X11_truth_1 NF p1 v5 f48 w5 g5
        let t53 : Int32 := t50 - r51
        let r54 : Int32 := gsY_X11_greater_1 NF 0 t53 v5 f48 w5 g5
        let f56 : Nat → Nat → Int32 := upd2 f48 24 (upd (f48 24) t49.toNatClampNeg r54)
        let t57 : Int32 := 18 + l2_5
        let t58 : Int32 := f56 24 (t57).toNatClampNeg
        let r59 : Int32 := gsY_X11_truth_1 NF p1 v5 f56 w5 g5
        let t61 : Int32 := t58 - r59
        let r62 : Int32 := gsY_X11_greater_1 NF 0 t61 v5 f56 w5 g5
        let f64 : Nat → Nat → Int32 := upd2 f56 24 (upd (f56 24) t57.toNatClampNeg r62)
        let t65 : Int32 := l2_5 + 1
        gsY_X11_goDay_1_L5 NF p1 v n5 t65 v5 f64 w5 g5
      else
        let t67 : Int32 := l2_5 + 1
        gsY_X11_goDay_1_L5 NF p1 v n5 t67 v5 f5 w5 g5
def gsY_X11_goDay_1_L1 (NF : Nat) (p1 : Int32) (v : Nat → Int32) : Nat → (Int32) → (Nat → Int32) → (Nat → Nat → Int32) → (Int64) → (Nat → Int64) → Int32 × (Nat → Int32) × (Nat → Nat → Int32) × (Int64) × (Nat → Int64)
  | 0, _, _, _, _, _ => (0, (fun _ => 0), (fun _ _ => 0), 0, (fun _ => 0))
  | n1 + 1, l2_1, v1, f1, w1, g1 =>
    if (v 24) ≤ l2_1 then
      gsY_X11_goDay_1_L5 NF p1 v (4294967296 + NF) 0 v1 f1 w1 g1
    else
      let t71 : Int32 := f1 24 (l2_1).toNatClampNeg
      let t72 : Int32 := f1 18 (l2_1).toNatClampNeg
      let t73 : Int32 := t71 + t72
      let r75 : Int32 := gsY_X11_lesser_1 NF 99 t73 v1 f1 w1 g1
      let f79 : Nat → Nat → Int32 := upd2 f1 24 (upd (f1 24) l2_1.toNatClampNeg r75)
      let t80 : Int32 := l2_1 + 1
      gsY_X11_goDay_1_L1 NF p1 v n1 t80 v1 f79 w1 g1
def gsY_X11_goDay_1 (NF : Nat) (p1 : Int32) (v : Nat → Int32) (f : Nat → Nat → Int32) (w : Int64) (g : Nat → Int64) : Int32 × (Nat → Int32) × (Nat → Nat → Int32) × (Int64) × (Nat → Int64) :=
  gsY_X11_goDay_1_L1 NF p1 v (4294967296 + NF) 0 v f w g
theorem gsY_X11_goDay_1_q8 {NF : Nat} {p1 : Int32} {v : Nat → Int32} {f : Nat → Nat → Int32} {w : Int64} {g : Nat → Int64}  : gsY_X11_goDay_1 NF p1 v f w g = gsY_X11_goDay_1_L1 NF p1 v (4294967296 + NF) 0 v f w g := by
  simp only [gsY_X11_goDay_1]
theorem gsY_X11_goDay_1_q6 {NF : Nat} {p1 : Int32} {v : Nat → Int32} {n1 : Nat} {l2_1 : Int32} {v1 : Nat → Int32} {f1 : Nat → Nat → Int32} {w1 : Int64} {g1 : Nat → Int64} (h0 : ((v 24) ≤ l2_1)) : gsY_X11_goDay_1_L1 NF p1 v (n1 + 1) l2_1 v1 f1 w1 g1 = gsY_X11_goDay_1_L5 NF p1 v (4294967296 + NF) 0 v1 f1 w1 g1 := by
  simp only [gsY_X11_goDay_1_L1, if_pos h0]
theorem gsY_X11_goDay_1_q7 {NF : Nat} {p1 : Int32} {v : Nat → Int32} {n1 : Nat} {l2_1 : Int32} {v1 : Nat → Int32} {f1 : Nat → Nat → Int32} {w1 : Int64} {g1 : Nat → Int64} {t71 : Int32} {t72 : Int32} {t73 : Int32} {r75 : Int32} {f79 : Nat → Nat → Int32} {t80 : Int32} (h0 : ¬ ((v 24) ≤ l2_1)) (h1 : t71 = f1 24 (l2_1).toNatClampNeg) (h2 : t72 = f1 18 (l2_1).toNatClampNeg) (h3 : t73 = t71 + t72) (h4 : r75 = gsY_X11_lesser_1 NF 99 t73 v1 f1 w1 g1) (h5 : f79 = upd2 f1 24 (upd (f1 24) l2_1.toNatClampNeg r75)) (h6 : t80 = l2_1 + 1) : gsY_X11_goDay_1_L1 NF p1 v (n1 + 1) l2_1 v1 f1 w1 g1 = gsY_X11_goDay_1_L1 NF p1 v n1 t80 v1 f79 w1 g1 := by
  subst h1 h2 h3 h4 h5 h6
  simp only [gsY_X11_goDay_1_L1, if_neg h0]
theorem gsY_X11_goDay_1_q3 {NF : Nat} {p1 : Int32} {v : Nat → Int32} {n5 : Nat} {l2_5 : Int32} {v5 : Nat → Int32} {f5 : Nat → Nat → Int32} {w5 : Int64} {g5 : Nat → Int64} {t9 : Int32} {t10 : Int32} {f11 : Nat → Nat → Int32} {r12 : Int32} {r14 : Int32} {v16 : Nat → Int32} {f17 : Nat → Nat → Int32} {w18 : Int64} {g19 : Nat → Int64} {t20 : Int32} {t21 : Int32} (h0 : ((v 25) ≤ l2_5)) (h1 : t9 = f5 24 (37 : Int32).toNatClampNeg) (h2 : t10 = t9 + 1) (h3 : f11 = upd2 f5 24 (upd (f5 24) (37 : Int32).toNatClampNeg t10)) (h4 : r12 = gsY_X11_wearers_1 NF v5 f11 w5 g5) (h5 : gsY_X11_fittedOnes_1 NF v5 f11 w5 g5 = (r14, v16, f17, w18, g19)) (h6 : t20 = r14 ^^^ (-1)) (h7 : t21 = r12 &&& t20) : gsY_X11_goDay_1_L5 NF p1 v (n5 + 1) l2_5 v5 f5 w5 g5 = gsY_X11_goDay_1_L22 NF v t21 (4294967296 + NF) 0 v16 f17 w18 g19 := by
  subst h1 h2 h3 h4 h6 h7
  simp only [gsY_X11_goDay_1_L5, if_pos h0, h5]
theorem gsY_X11_goDay_1_q4 {NF : Nat} {p1 : Int32} {v : Nat → Int32} {n5 : Nat} {l2_5 : Int32} {v5 : Nat → Int32} {f5 : Nat → Nat → Int32} {w5 : Int64} {g5 : Nat → Int64} {r37 : Int32} {t40 : Int32} {t41 : Int32} {t42 : Int32} {r44 : Int32} {f48 : Nat → Nat → Int32} {t49 : Int32} {t50 : Int32} {r51 : Int32} {t53 : Int32} {r54 : Int32} {f56 : Nat → Nat → Int32} {t57 : Int32} {t58 : Int32} {r59 : Int32} {t61 : Int32} {r62 : Int32} {f64 : Nat → Nat → Int32} {t65 : Int32} (h0 : ¬ ((v 25) ≤ l2_5)) (h1 : r37 = gsY_X11_wearer_1 NF l2_5 v5 f5 w5 g5) (h2 : (0 ≤ r37)) (h3 : t40 = 30 + l2_5) (h4 : t41 = f5 24 (t40).toNatClampNeg) (h5 : t42 = t41 + 1) (h6 : r44 = gsY_X11_lesser_1 NF 99 t42 v5 f5 w5 g5) (h7 : f48 = upd2 f5 24 (upd (f5 24) t40.toNatClampNeg r44)) (h8 : t49 = 12 + l2_5) (h9 : t50 = f48 24 (t49).toNatClampNeg) (h10 : r51 = gsY_X11_truth_1 NF p1 v5 f48 w5 g5) (h11 : t53 = t50 - r51) (h12 : r54 = gsY_X11_greater_1 NF 0 t53 v5 f48 w5 g5) (h13 : f56 = upd2 f48 24 (upd (f48 24) t49.toNatClampNeg r54)) (h14 : t57 = 18 + l2_5) (h15 : t58 = f56 24 (t57).toNatClampNeg) (h16 : r59 = gsY_X11_truth_1 NF p1 v5 f56 w5 g5) (h17 : t61 = t58 - r59) (h18 : r62 = gsY_X11_greater_1 NF 0 t61 v5 f56 w5 g5) (h19 : f64 = upd2 f56 24 (upd (f56 24) t57.toNatClampNeg r62)) (h20 : t65 = l2_5 + 1) : gsY_X11_goDay_1_L5 NF p1 v (n5 + 1) l2_5 v5 f5 w5 g5 = gsY_X11_goDay_1_L5 NF p1 v n5 t65 v5 f64 w5 g5 := by
  subst h1 h3 h4 h5 h6 h7 h8 h9 h10 h11 h12 h13 h14 h15 h16 h17 h18 h19 h20
  simp only [gsY_X11_goDay_1_L5, if_neg h0, if_pos h2]
theorem gsY_X11_goDay_1_q5 {NF : Nat} {p1 : Int32} {v : Nat → Int32} {n5 : Nat} {l2_5 : Int32} {v5 : Nat → Int32} {f5 : Nat → Nat → Int32} {w5 : Int64} {g5 : Nat → Int64} {r37 : Int32} {t67 : Int32} (h0 : ¬ ((v 25) ≤ l2_5)) (h1 : r37 = gsY_X11_wearer_1 NF l2_5 v5 f5 w5 g5) (h2 : ¬ (0 ≤ r37)) (h3 : t67 = l2_5 + 1) : gsY_X11_goDay_1_L5 NF p1 v (n5 + 1) l2_5 v5 f5 w5 g5 = gsY_X11_goDay_1_L5 NF p1 v n5 t67 v5 f5 w5 g5 := by
  subst h1 h3
  simp only [gsY_X11_goDay_1_L5, if_neg h0, if_neg h2]
theorem gsY_X11_goDay_1_q0 {NF : Nat} {v : Nat → Int32} {t21 : Int32} {n22 : Nat} {l3_22 : Int32} {v22 : Nat → Int32} {f22 : Nat → Nat → Int32} {w22 : Int64} {g22 : Nat → Int64} (h0 : ((v 24) ≤ l3_22)) : gsY_X11_goDay_1_L22 NF v t21 (n22 + 1) l3_22 v22 f22 w22 g22 = (t21, v22, f22, w22, g22) := by
  simp only [gsY_X11_goDay_1_L22, if_pos h0]
theorem gsY_X11_goDay_1_q1 {NF : Nat} {v : Nat → Int32} {t21 : Int32} {n22 : Nat} {l3_22 : Int32} {v22 : Nat → Int32} {f22 : Nat → Nat → Int32} {w22 : Int64} {g22 : Nat → Int64} {t26 : Int32} {t27 : Int32} {t29 : Int32} (h0 : ¬ ((v 24) ≤ l3_22)) (h1 : t26 = t21 >>> (l3_22 &&& 31)) (h2 : t27 = t26 &&& 1) (h3 : ¬ (t27 = 1)) (h4 : t29 = l3_22 + 1) : gsY_X11_goDay_1_L22 NF v t21 (n22 + 1) l3_22 v22 f22 w22 g22 = gsY_X11_goDay_1_L22 NF v t21 n22 t29 v22 f22 w22 g22 := by
  subst h1 h2 h4
  simp only [gsY_X11_goDay_1_L22, if_neg h0, if_neg h3]
theorem gsY_X11_goDay_1_q2 {NF : Nat} {v : Nat → Int32} {t21 : Int32} {n22 : Nat} {l3_22 : Int32} {v22 : Nat → Int32} {f22 : Nat → Nat → Int32} {w22 : Int64} {g22 : Nat → Int64} {t26 : Int32} {t27 : Int32} {t31 : Int32} {f32 : Nat → Nat → Int32} {t33 : Int32} (h0 : ¬ ((v 24) ≤ l3_22)) (h1 : t26 = t21 >>> (l3_22 &&& 31)) (h2 : t27 = t26 &&& 1) (h3 : (t27 = 1)) (h4 : t31 = 6 + l3_22) (h5 : f32 = upd2 f22 24 (upd (f22 24) t31.toNatClampNeg (-1))) (h6 : t33 = l3_22 + 1) : gsY_X11_goDay_1_L22 NF v t21 (n22 + 1) l3_22 v22 f22 w22 g22 = gsY_X11_goDay_1_L22 NF v t21 n22 t33 v22 f32 w22 g22 := by
  subst h1 h2 h4 h5 h6
  simp only [gsY_X11_goDay_1_L22, if_neg h0, if_pos h3]
