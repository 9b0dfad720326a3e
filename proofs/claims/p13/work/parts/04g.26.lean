def gsX_X5_keepAct_1 (NF : Nat) (v : Nat → Int32) (f : Nat → Nat → Int32) : (Nat → Int32) × (Nat → Nat → Int32) :=
  if 40 ≤ (v 22) then
    let t2 : Int32 := (v 21) + 1
    let t3 : Int32 := t2 - t2 / 41 * 41
    let t4 : Int32 := t3 + (v 22)
    let t5 : Int32 := t4 - t4 / 41 * 41
    match gsX_X1_saveTo_1 NF t5 (upd (upd v 23 0) 21 t3) f with
    | (v7, f8) =>
      (v7, f8)
  else
    let t9 : Int32 := (v 22) + 1
    let t11 : Int32 := (v 21) + t9
    let t12 : Int32 := t11 - t11 / 41 * 41
    match gsX_X1_saveTo_1 NF t12 (upd (upd v 23 0) 22 t9) f with
    | (v14, f15) =>
      (v14, f15)
theorem gsX_X5_keepAct_1_q0 {NF : Nat} {v : Nat → Int32} {f : Nat → Nat → Int32} {t2 : Int32} {t3 : Int32} {t4 : Int32} {t5 : Int32} {v7 : Nat → Int32} {f8 : Nat → Nat → Int32} (h0 : (40 ≤ (v 22))) (h1 : t2 = (v 21) + 1) (h2 : t3 = t2 - t2 / 41 * 41) (h3 : t4 = t3 + (v 22)) (h4 : t5 = t4 - t4 / 41 * 41) (h5 : gsX_X1_saveTo_1 NF t5 (upd (upd v 23 0) 21 t3) f = (v7, f8)) : gsX_X5_keepAct_1 NF v f = (v7, f8) := by
  subst h1 h2 h3 h4
  simp only [gsX_X5_keepAct_1, if_pos h0, h5]
theorem gsX_X5_keepAct_1_q1 {NF : Nat} {v : Nat → Int32} {f : Nat → Nat → Int32} {t9 : Int32} {t11 : Int32} {t12 : Int32} {v14 : Nat → Int32} {f15 : Nat → Nat → Int32} (h0 : ¬ (40 ≤ (v 22))) (h1 : t9 = (v 22) + 1) (h2 : t11 = (v 21) + t9) (h3 : t12 = t11 - t11 / 41 * 41) (h4 : gsX_X1_saveTo_1 NF t12 (upd (upd v 23 0) 22 t9) f = (v14, f15)) : gsX_X5_keepAct_1 NF v f = (v14, f15) := by
  subst h1 h2 h3
  simp only [gsX_X5_keepAct_1, if_neg h0, h4]
def gsX_X10_day_1 (NF : Nat) (v : Nat → Int32) (f : Nat → Nat → Int32) : Int32 × (Nat → Int32) × (Nat → Nat → Int32) :=
  let r1 : Int32 := gsX_X1_today_1 NF v f
  if r1 < 999 then
    match gsX_X1_passDay_1 NF (v 36) v f with
    | (r4, v6, f7) =>
      match gsX_X5_keepAct_1 NF v6 f7 with
      | (v9, f10) =>
        (r4, v9, f10)
  else
    ((-1), v, f)
theorem gsX_X10_day_1_q0 {NF : Nat} {v : Nat → Int32} {f : Nat → Nat → Int32} {r1 : Int32} {r4 : Int32} {v6 : Nat → Int32} {f7 : Nat → Nat → Int32} {v9 : Nat → Int32} {f10 : Nat → Nat → Int32} (h0 : r1 = gsX_X1_today_1 NF v f) (h1 : (r1 < 999)) (h2 : gsX_X1_passDay_1 NF (v 36) v f = (r4, v6, f7)) (h3 : gsX_X5_keepAct_1 NF v6 f7 = (v9, f10)) : gsX_X10_day_1 NF v f = (r4, v9, f10) := by
  subst h0
  simp only [gsX_X10_day_1, if_pos h1, h2, h3]
theorem gsX_X10_day_1_q1 {NF : Nat} {v : Nat → Int32} {f : Nat → Nat → Int32} {r1 : Int32} (h0 : r1 = gsX_X1_today_1 NF v f) (h1 : ¬ (r1 < 999)) : gsX_X10_day_1 NF v f = ((-1), v, f) := by
  subst h0
  simp only [gsX_X10_day_1, if_neg h1]
def gsX_X1_wearer_1_L1 (NF : Nat) (p1 : Int32) (v : Nat → Int32) (f : Nat → Nat → Int32) : Nat → (Int32) → Int32
  | 0, _ => 0
  | n1 + 1, l2_1 =>
    if (v 31) ≤ l2_1 then
      (-1)
    else
      let r7 : Int32 := gsX_X1_wears_1 NF l2_1 v f
      if r7 = p1 then
        l2_1
      else
        let t12 : Int32 := l2_1 + 1
        gsX_X1_wearer_1_L1 NF p1 v f n1 t12
def gsX_X1_wearer_1 (NF : Nat) (p1 : Int32) (v : Nat → Int32) (f : Nat → Nat → Int32) : Int32 :=
  gsX_X1_wearer_1_L1 NF p1 v f (4294967296 + NF) 0
theorem gsX_X1_wearer_1_q3 {NF : Nat} {p1 : Int32} {v : Nat → Int32} {f : Nat → Nat → Int32}  : gsX_X1_wearer_1 NF p1 v f = gsX_X1_wearer_1_L1 NF p1 v f (4294967296 + NF) 0 := by
  simp only [gsX_X1_wearer_1]
theorem gsX_X1_wearer_1_q0 {NF : Nat} {p1 : Int32} {v : Nat → Int32} {f : Nat → Nat → Int32} {n1 : Nat} {l2_1 : Int32} (h0 : ((v 31) ≤ l2_1)) : gsX_X1_wearer_1_L1 NF p1 v f (n1 + 1) l2_1 = (-1) := by
  simp only [gsX_X1_wearer_1_L1, if_pos h0]
theorem gsX_X1_wearer_1_q1 {NF : Nat} {p1 : Int32} {v : Nat → Int32} {f : Nat → Nat → Int32} {n1 : Nat} {l2_1 : Int32} {r7 : Int32} {t12 : Int32} (h0 : ¬ ((v 31) ≤ l2_1)) (h1 : r7 = gsX_X1_wears_1 NF l2_1 v f) (h2 : ¬ (r7 = p1)) (h3 : t12 = l2_1 + 1) : gsX_X1_wearer_1_L1 NF p1 v f (n1 + 1) l2_1 = gsX_X1_wearer_1_L1 NF p1 v f n1 t12 := by
  subst h1 h3
  simp only [gsX_X1_wearer_1_L1, if_neg h0, if_neg h2]
theorem gsX_X1_wearer_1_q2 {NF : Nat} {p1 : Int32} {v : Nat → Int32} {f : Nat → Nat → Int32} {n1 : Nat} {l2_1 : Int32} {r7 : Int32} (h0 : ¬ ((v 31) ≤ l2_1)) (h1 : r7 = gsX_X1_wears_1 NF l2_1 v f) (h2 : (r7 = p1)) : gsX_X1_wearer_1_L1 NF p1 v f (n1 + 1) l2_1 = l2_1 := by
  subst h1
  simp only [gsX_X1_wearer_1_L1, if_neg h0, if_pos h2]
def gsX_X10_don_1 (NF : Nat) (p1 : Int32) (p2 : Int32) (v : Nat → Int32) (f : Nat → Nat → Int32) : Int32 × (Nat → Int32) × (Nat → Nat → Int32) :=
  if gsX_X7_hasMan_1 NF p1 v f = 1 then
    if gsX_X7_hasCoat_1 NF p2 v f = 1 then
      let r7 : Int32 := gsX_X1_wearer_1 NF p2 v f
      if r7 = (-1) then
        let r10 : Int32 := gsX_X1_wears_1 NF p1 v f
        match gsX_X1_setWears_1 NF p1 p2 v f with
        | (v13, f14) =>
          match gsX_X5_keepAct_1 NF v13 f14 with
          | (v16, f17) =>
            (r10, v16, f17)
      else
        ((-2), v, f)
    else
      ((-2), v, f)
  else
    ((-2), v, f)
theorem gsX_X10_don_1_q0 {NF : Nat} {p1 : Int32} {p2 : Int32} {v : Nat → Int32} {f : Nat → Nat → Int32} {r7 : Int32} {r10 : Int32} {v13 : Nat → Int32} {f14 : Nat → Nat → Int32} {v16 : Nat → Int32} {f17 : Nat → Nat → Int32} (h0 : gsX_X7_hasMan_1 NF p1 v f = 1) (h1 : gsX_X7_hasCoat_1 NF p2 v f = 1) (h2 : r7 = gsX_X1_wearer_1 NF p2 v f) (h3 : (r7 = (-1))) (h4 : r10 = gsX_X1_wears_1 NF p1 v f) (h5 : gsX_X1_setWears_1 NF p1 p2 v f = (v13, f14)) (h6 : gsX_X5_keepAct_1 NF v13 f14 = (v16, f17)) : gsX_X10_don_1 NF p1 p2 v f = (r10, v16, f17) := by
  subst h2 h4
  simp only [gsX_X10_don_1, h0, h1, if_pos h3, h5, h6, ite11, ite01, if_true, if_false]
theorem gsX_X10_don_1_q1 {NF : Nat} {p1 : Int32} {p2 : Int32} {v : Nat → Int32} {f : Nat → Nat → Int32} {r7 : Int32} (h0 : gsX_X7_hasMan_1 NF p1 v f = 1) (h1 : gsX_X7_hasCoat_1 NF p2 v f = 1) (h2 : r7 = gsX_X1_wearer_1 NF p2 v f) (h3 : ¬ (r7 = (-1))) : gsX_X10_don_1 NF p1 p2 v f = ((-2), v, f) := by
  subst h2
  simp only [gsX_X10_don_1, h0, h1, if_neg h3, ite11, ite01, if_true, if_false]
theorem gsX_X10_don_1_q2 {NF : Nat} {p1 : Int32} {p2 : Int32} {v : Nat → Int32} {f : Nat → Nat → Int32} (h0 : gsX_X7_hasMan_1 NF p1 v f = 1) (h1 : gsX_X7_hasCoat_1 NF p2 v f = 0) : gsX_X10_don_1 NF p1 p2 v f = ((-2), v, f) := by
  simp only [gsX_X10_don_1, h0, h1, ite11, ite01, if_true, if_false]
theorem gsX_X10_don_1_q3 {NF : Nat} {p1 : Int32} {p2 : Int32} {v : Nat → Int32} {f : Nat → Nat → Int32} (h0 : gsX_X7_hasMan_1 NF p1 v f = 0) : gsX_X10_don_1 NF p1 p2 v f = ((-2), v, f) := by
  simp only [gsX_X10_don_1, h0, ite11, ite01, if_true, if_false]
def gsX_X10_doff_1 (NF : Nat) (p1 : Int32) (v : Nat → Int32) (f : Nat → Nat → Int32) : Int32 × (Nat → Int32) × (Nat → Nat → Int32) :=
  let r1 : Int32 := gsX_X1_wears_1 NF p1 v f
  if r1 = (-1) then
    ((-1), v, f)
  else
    match gsX_X1_setWears_1 NF p1 (-1) v f with
    | (v5, f6) =>
      match gsX_X5_keepAct_1 NF v5 f6 with
      | (v8, f9) =>
        (r1, v8, f9)
theorem gsX_X10_doff_1_q0 {NF : Nat} {p1 : Int32} {v : Nat → Int32} {f : Nat → Nat → Int32} {r1 : Int32} {v5 : Nat → Int32} {f6 : Nat → Nat → Int32} {v8 : Nat → Int32} {f9 : Nat → Nat → Int32} (h0 : r1 = gsX_X1_wears_1 NF p1 v f) (h1 : ¬ (r1 = (-1))) (h2 : gsX_X1_setWears_1 NF p1 (-1) v f = (v5, f6)) (h3 : gsX_X5_keepAct_1 NF v5 f6 = (v8, f9)) : gsX_X10_doff_1 NF p1 v f = (r1, v8, f9) := by
  subst h0
  simp only [gsX_X10_doff_1, if_neg h1, h2, h3]
theorem gsX_X10_doff_1_q1 {NF : Nat} {p1 : Int32} {v : Nat → Int32} {f : Nat → Nat → Int32} {r1 : Int32} (h0 : r1 = gsX_X1_wears_1 NF p1 v f) (h1 : (r1 = (-1))) : gsX_X10_doff_1 NF p1 v f = ((-1), v, f) := by
  subst h0
  simp only [gsX_X10_doff_1, if_pos h1]
def gsX_X10_widen_1 (NF : Nat) (p1 : Int32) (p2 : Int32) (v : Nat → Int32) (f : Nat → Nat → Int32) : Int32 × (Nat → Int32) × (Nat → Nat → Int32) :=
  let r1 : Int32 := gsX_X1_part_1 NF 1 p1 v f
  let t3 : Int32 := r1 + p2
  let r4 : Int32 := gsX_X1_part_1 NF 2 p1 v f
  let t6 : Int32 := r4 - p2
  if 99 < t3 then
    ((-1), v, f)
  else
    if t6 ≤ 99 then
      match gsX_X1_setPart_1 NF 1 p1 t3 v f with
      | (v10, f11) =>
        match gsX_X1_setPart_1 NF 2 p1 t6 v10 f11 with
        | (v13, f14) =>
          match gsX_X5_keepAct_1 NF v13 f14 with
          | (v16, f17) =>
            (t3, v16, f17)
    else
      ((-1), v, f)
theorem gsX_X10_widen_1_q0 {NF : Nat} {p1 : Int32} {p2 : Int32} {v : Nat → Int32} {f : Nat → Nat → Int32} {r1 : Int32} {t3 : Int32} {r4 : Int32} {t6 : Int32} (h0 : r1 = gsX_X1_part_1 NF 1 p1 v f) (h1 : t3 = r1 + p2) (h2 : r4 = gsX_X1_part_1 NF 2 p1 v f) (h3 : t6 = r4 - p2) (h4 : (99 < t3)) : gsX_X10_widen_1 NF p1 p2 v f = ((-1), v, f) := by
  subst h0 h1 h2 h3
  simp only [gsX_X10_widen_1, if_pos h4]
theorem gsX_X10_widen_1_q1 {NF : Nat} {p1 : Int32} {p2 : Int32} {v : Nat → Int32} {f : Nat → Nat → Int32} {r1 : Int32} {t3 : Int32} {r4 : Int32} {t6 : Int32} {v10 : Nat → Int32} {f11 : Nat → Nat → Int32} {v13 : Nat → Int32} {f14 : Nat → Nat → Int32} {v16 : Nat → Int32} {f17 : Nat → Nat → Int32} (h0 : r1 = gsX_X1_part_1 NF 1 p1 v f) (h1 : t3 = r1 + p2) (h2 : r4 = gsX_X1_part_1 NF 2 p1 v f) (h3 : t6 = r4 - p2) (h4 : ¬ (99 < t3)) (h5 : (t6 ≤ 99)) (h6 : gsX_X1_setPart_1 NF 1 p1 t3 v f = (v10, f11)) (h7 : gsX_X1_setPart_1 NF 2 p1 t6 v10 f11 = (v13, f14)) (h8 : gsX_X5_keepAct_1 NF v13 f14 = (v16, f17)) : gsX_X10_widen_1 NF p1 p2 v f = (t3, v16, f17) := by
  subst h0 h1 h2 h3
  simp only [gsX_X10_widen_1, if_neg h4, if_pos h5, h6, h7, h8]
theorem gsX_X10_widen_1_q2 {NF : Nat} {p1 : Int32} {p2 : Int32} {v : Nat → Int32} {f : Nat → Nat → Int32} {r1 : Int32} {t3 : Int32} {r4 : Int32} {t6 : Int32} (h0 : r1 = gsX_X1_part_1 NF 1 p1 v f) (h1 : t3 = r1 + p2) (h2 : r4 = gsX_X1_part_1 NF 2 p1 v f) (h3 : t6 = r4 - p2) (h4 : ¬ (99 < t3)) (h5 : ¬ (t6 ≤ 99)) : gsX_X10_widen_1 NF p1 p2 v f = ((-1), v, f) := by
  subst h0 h1 h2 h3
  simp only [gsX_X10_widen_1, if_neg h4, if_neg h5]
def gsX_X10_letout_1 (NF : Nat) (p1 : Int32) (p2 : Int32) (v : Nat → Int32) (f : Nat → Nat → Int32) : Int32 × (Nat → Int32) × (Nat → Nat → Int32) :=
  if p2 < 1 then
    ((-1), v, f)
  else
    let r2 : Int32 := gsX_X1_part_1 NF 2 p1 v f
    if p2 ≤ r2 then
      match gsX_X10_widen_1 NF p1 p2 v f with
      | (r7, v9, f10) =>
        (r7, v9, f10)
    else
      ((-1), v, f)
theorem gsX_X10_letout_1_q0 {NF : Nat} {p1 : Int32} {p2 : Int32} {v : Nat → Int32} {f : Nat → Nat → Int32} (h0 : (p2 < 1)) : gsX_X10_letout_1 NF p1 p2 v f = ((-1), v, f) := by
  simp only [gsX_X10_letout_1, if_pos h0]
theorem gsX_X10_letout_1_q1 {NF : Nat} {p1 : Int32} {p2 : Int32} {v : Nat → Int32} {f : Nat → Nat → Int32} {r2 : Int32} {r7 : Int32} {v9 : Nat → Int32} {f10 : Nat → Nat → Int32} (h0 : ¬ (p2 < 1)) (h1 : r2 = gsX_X1_part_1 NF 2 p1 v f) (h2 : (p2 ≤ r2)) (h3 : gsX_X10_widen_1 NF p1 p2 v f = (r7, v9, f10)) : gsX_X10_letout_1 NF p1 p2 v f = (r7, v9, f10) := by
  subst h1
  simp only [gsX_X10_letout_1, if_neg h0, if_pos h2, h3]
theorem gsX_X10_letout_1_q2 {NF : Nat} {p1 : Int32} {p2 : Int32} {v : Nat → Int32} {f : Nat → Nat → Int32} {r2 : Int32} (h0 : ¬ (p2 < 1)) (h1 : r2 = gsX_X1_part_1 NF 2 p1 v f) (h2 : ¬ (p2 ≤ r2)) : gsX_X10_letout_1 NF p1 p2 v f = ((-1), v, f) := by
  subst h1
  simp only [gsX_X10_letout_1, if_neg h0, if_neg h2]
def gsX_X10_takein_1 (NF : Nat) (p1 : Int32) (p2 : Int32) (v : Nat → Int32) (f : Nat → Nat → Int32) : Int32 × (Nat → Int32) × (Nat → Nat → Int32) :=
  if p2 < 1 then
    ((-1), v, f)
  else
    let r2 : Int32 := gsX_X1_part_1 NF 1 p1 v f
    if p2 ≤ r2 then
      let t7 : Int32 := -p2
      match gsX_X10_widen_1 NF p1 t7 v f with
      | (r8, v10, f11) =>
        (r8, v10, f11)
    else
      ((-1), v, f)
theorem gsX_X10_takein_1_q0 {NF : Nat} {p1 : Int32} {p2 : Int32} {v : Nat → Int32} {f : Nat → Nat → Int32} (h0 : (p2 < 1)) : gsX_X10_takein_1 NF p1 p2 v f = ((-1), v, f) := by
  simp only [gsX_X10_takein_1, if_pos h0]
theorem gsX_X10_takein_1_q1 {NF : Nat} {p1 : Int32} {p2 : Int32} {v : Nat → Int32} {f : Nat → Nat → Int32} {r2 : Int32} {t7 : Int32} {r8 : Int32} {v10 : Nat → Int32} {f11 : Nat → Nat → Int32} (h0 : ¬ (p2 < 1)) (h1 : r2 = gsX_X1_part_1 NF 1 p1 v f) (h2 : (p2 ≤ r2)) (h3 : t7 = -p2) (h4 : gsX_X10_widen_1 NF p1 t7 v f = (r8, v10, f11)) : gsX_X10_takein_1 NF p1 p2 v f = (r8, v10, f11) := by
  subst h1 h3
  simp only [gsX_X10_takein_1, if_neg h0, if_pos h2, h4]
theorem gsX_X10_takein_1_q2 {NF : Nat} {p1 : Int32} {p2 : Int32} {v : Nat → Int32} {f : Nat → Nat → Int32} {r2 : Int32} (h0 : ¬ (p2 < 1)) (h1 : r2 = gsX_X1_part_1 NF 1 p1 v f) (h2 : ¬ (p2 ≤ r2)) : gsX_X10_takein_1 NF p1 p2 v f = ((-1), v, f) := by
  subst h1
  simp only [gsX_X10_takein_1, if_neg h0, if_neg h2]
def gsX_X10_hem_1 (NF : Nat) (p1 : Int32) (p2 : Int32) (v : Nat → Int32) (f : Nat → Nat → Int32) : Int32 × (Nat → Int32) × (Nat → Nat → Int32) :=
  let r1 : Int32 := gsX_X1_part_1 NF 0 p1 v f
  if p2 < 1 then
    ((-1), v, f)
  else
    if p2 ≤ r1 then
      let t7 : Int32 := r1 - p2
      match gsX_X1_setPart_1 NF 0 p1 t7 v f with
      | (v9, f10) =>
        match gsX_X5_keepAct_1 NF v9 f10 with
        | (v12, f13) =>
          (t7, v12, f13)
    else
      ((-1), v, f)
theorem gsX_X10_hem_1_q0 {NF : Nat} {p1 : Int32} {p2 : Int32} {v : Nat → Int32} {f : Nat → Nat → Int32} {r1 : Int32} (h0 : r1 = gsX_X1_part_1 NF 0 p1 v f) (h1 : (p2 < 1)) : gsX_X10_hem_1 NF p1 p2 v f = ((-1), v, f) := by
  subst h0
  simp only [gsX_X10_hem_1, if_pos h1]
theorem gsX_X10_hem_1_q1 {NF : Nat} {p1 : Int32} {p2 : Int32} {v : Nat → Int32} {f : Nat → Nat → Int32} {r1 : Int32} {t7 : Int32} {v9 : Nat → Int32} {f10 : Nat → Nat → Int32} {v12 : Nat → Int32} {f13 : Nat → Nat → Int32} (h0 : r1 = gsX_X1_part_1 NF 0 p1 v f) (h1 : ¬ (p2 < 1)) (h2 : (p2 ≤ r1)) (h3 : t7 = r1 - p2) (h4 : gsX_X1_setPart_1 NF 0 p1 t7 v f = (v9, f10)) (h5 : gsX_X5_keepAct_1 NF v9 f10 = (v12, f13)) : gsX_X10_hem_1 NF p1 p2 v f = (t7, v12, f13) := by
  subst h0 h3
  simp only [gsX_X10_hem_1, if_neg h1, if_pos h2, h4, h5]
theorem gsX_X10_hem_1_q2 {NF : Nat} {p1 : Int32} {p2 : Int32} {v : Nat → Int32} {f : Nat → Nat → Int32} {r1 : Int32} (h0 : r1 = gsX_X1_part_1 NF 0 p1 v f) (h1 : ¬ (p2 < 1)) (h2 : ¬ (p2 ≤ r1)) : gsX_X10_hem_1 NF p1 p2 v f = ((-1), v, f) := by
  subst h0
  simp only [gsX_X10_hem_1, if_neg h1, if_neg h2]
def gsX_X10_turn_1 (NF : Nat) (p1 : Int32) (v : Nat → Int32) (f : Nat → Nat → Int32) : Int32 × (Nat → Int32) × (Nat → Nat → Int32) :=
  if gsX_X7_hasCoat_1 NF p1 v f = 1 then
    let r4 : Int32 := gsX_X1_part_1 NF 4 p1 v f
    if r4 = 0 then
      let r7 : Int32 := gsX_X1_part_1 NF 3 p1 v f
      match gsX_X1_setPart_1 NF 3 p1 0 v f with
      | (v10, f11) =>
        match gsX_X1_setPart_1 NF 4 p1 1 v10 f11 with
        | (v13, f14) =>
          match gsX_X5_keepAct_1 NF v13 f14 with
          | (v16, f17) =>
            (r7, v16, f17)
    else
      ((-1), v, f)
  else
    ((-1), v, f)
theorem gsX_X10_turn_1_q0 {NF : Nat} {p1 : Int32} {v : Nat → Int32} {f : Nat → Nat → Int32} {r4 : Int32} {r7 : Int32} {v10 : Nat → Int32} {f11 : Nat → Nat → Int32} {v13 : Nat → Int32} {f14 : Nat → Nat → Int32} {v16 : Nat → Int32} {f17 : Nat → Nat → Int32} (h0 : gsX_X7_hasCoat_1 NF p1 v f = 1) (h1 : r4 = gsX_X1_part_1 NF 4 p1 v f) (h2 : (r4 = 0)) (h3 : r7 = gsX_X1_part_1 NF 3 p1 v f) (h4 : gsX_X1_setPart_1 NF 3 p1 0 v f = (v10, f11)) (h5 : gsX_X1_setPart_1 NF 4 p1 1 v10 f11 = (v13, f14)) (h6 : gsX_X5_keepAct_1 NF v13 f14 = (v16, f17)) : gsX_X10_turn_1 NF p1 v f = (r7, v16, f17) := by
  subst h1 h3
  simp only [gsX_X10_turn_1, h0, if_pos h2, h4, h5, h6, ite11, ite01, if_true, if_false]
theorem gsX_X10_turn_1_q1 {NF : Nat} {p1 : Int32} {v : Nat → Int32} {f : Nat → Nat → Int32} {r4 : Int32} (h0 : gsX_X7_hasCoat_1 NF p1 v f = 1) (h1 : r4 = gsX_X1_part_1 NF 4 p1 v f) (h2 : ¬ (r4 = 0)) : gsX_X10_turn_1 NF p1 v f = ((-1), v, f) := by
  subst h1
  simp only [gsX_X10_turn_1, h0, if_neg h2, ite11, ite01, if_true, if_false]
theorem gsX_X10_turn_1_q2 {NF : Nat} {p1 : Int32} {v : Nat → Int32} {f : Nat → Nat → Int32} (h0 : gsX_X7_hasCoat_1 NF p1 v f = 0) : gsX_X10_turn_1 NF p1 v f = ((-1), v, f) := by
  simp only [gsX_X10_turn_1, h0, ite11, ite01, if_true, if_false]
