def gsX_X1_loadFrom_1 (NF : Nat) (p2 : Int32) (v : Nat → Int32) (f : Nat → Nat → Int32) : (Nat → Int32) × (Nat → Nat → Int32) :=
  if p2 < 0 then
    (v, f)
  else
    if 41 ≤ p2 then
      (v, f)
    else
      let t3 : Int32 := p2 * 44
      let f5 : Nat → Nat → Int32 := upd2 f 15 (va_cpy (f 17) (f 15) (t3).toNatClampNeg (0 : Int32).toNatClampNeg (44 : Int32).toNatClampNeg)
      (v, f5)
theorem gsX_X1_loadFrom_1_q0 {NF : Nat} {p2 : Int32} {v : Nat → Int32} {f : Nat → Nat → Int32} (h0 : (p2 < 0)) : gsX_X1_loadFrom_1 NF p2 v f = (v, f) := by
  simp only [gsX_X1_loadFrom_1, if_pos h0]
theorem gsX_X1_loadFrom_1_q1 {NF : Nat} {p2 : Int32} {v : Nat → Int32} {f : Nat → Nat → Int32} (h0 : ¬ (p2 < 0)) (h1 : (41 ≤ p2)) : gsX_X1_loadFrom_1 NF p2 v f = (v, f) := by
  simp only [gsX_X1_loadFrom_1, if_neg h0, if_pos h1]
theorem gsX_X1_loadFrom_1_q2 {NF : Nat} {p2 : Int32} {v : Nat → Int32} {f : Nat → Nat → Int32} {t3 : Int32} {f5 : Nat → Nat → Int32} (h0 : ¬ (p2 < 0)) (h1 : ¬ (41 ≤ p2)) (h2 : t3 = p2 * 44) (h3 : f5 = upd2 f 15 (va_cpy (f 17) (f 15) (t3).toNatClampNeg (0 : Int32).toNatClampNeg (44 : Int32).toNatClampNeg)) : gsX_X1_loadFrom_1 NF p2 v f = (v, f5) := by
  subst h2 h3
  simp only [gsX_X1_loadFrom_1, if_neg h0, if_neg h1]
def gsX_X5_stepBack_1 (NF : Nat) (v : Nat → Int32) (f : Nat → Nat → Int32) : Int32 × (Nat → Int32) × (Nat → Nat → Int32) :=
  if (v 22) = 0 then
    (0, v, f)
  else
    let t2 : Int32 := (v 22) - 1
    let t3 : Int32 := (v 23) + 1
    let t4 : Int32 := (v 21) + t2
    let t5 : Int32 := t4 - t4 / 41 * 41
    match gsX_X1_loadFrom_1 NF t5 (upd (upd v 22 t2) 23 t3) f with
    | (v7, f8) =>
      (1, v7, f8)
theorem gsX_X5_stepBack_1_q0 {NF : Nat} {v : Nat → Int32} {f : Nat → Nat → Int32} {t2 : Int32} {t3 : Int32} {t4 : Int32} {t5 : Int32} {v7 : Nat → Int32} {f8 : Nat → Nat → Int32} (h0 : ¬ ((v 22) = 0)) (h1 : t2 = (v 22) - 1) (h2 : t3 = (v 23) + 1) (h3 : t4 = (v 21) + t2) (h4 : t5 = t4 - t4 / 41 * 41) (h5 : gsX_X1_loadFrom_1 NF t5 (upd (upd v 22 t2) 23 t3) f = (v7, f8)) : gsX_X5_stepBack_1 NF v f = (1, v7, f8) := by
  subst h1 h2 h3 h4
  simp only [gsX_X5_stepBack_1, if_neg h0, h5]
theorem gsX_X5_stepBack_1_q1 {NF : Nat} {v : Nat → Int32} {f : Nat → Nat → Int32} (h0 : ((v 22) = 0)) : gsX_X5_stepBack_1 NF v f = (0, v, f) := by
  simp only [gsX_X5_stepBack_1, if_pos h0]
def gsX_X10_undo_1 (NF : Nat) (v : Nat → Int32) (f : Nat → Nat → Int32) : Int32 × (Nat → Int32) × (Nat → Nat → Int32) :=
  match gsX_X5_stepBack_1 NF v f with
  | (r1, v3, f4) =>
    if r1 = 1 then
      (1, v3, f4)
    else
      (0, v3, f4)
theorem gsX_X10_undo_1_q0 {NF : Nat} {v : Nat → Int32} {f : Nat → Nat → Int32} {v3 : Nat → Int32} {f4 : Nat → Nat → Int32} (h0 : gsX_X5_stepBack_1 NF v f = (1, v3, f4)) : gsX_X10_undo_1 NF v f = (1, v3, f4) := by
  simp only [gsX_X10_undo_1, h0, ite11, ite01, if_true, if_false]
theorem gsX_X10_undo_1_q1 {NF : Nat} {v : Nat → Int32} {f : Nat → Nat → Int32} {v3 : Nat → Int32} {f4 : Nat → Nat → Int32} (h0 : gsX_X5_stepBack_1 NF v f = (0, v3, f4)) : gsX_X10_undo_1 NF v f = (0, v3, f4) := by
  simp only [gsX_X10_undo_1, h0, ite11, ite01, if_true, if_false]
def gsX_X5_stepOn_1 (NF : Nat) (v : Nat → Int32) (f : Nat → Nat → Int32) : Int32 × (Nat → Int32) × (Nat → Nat → Int32) :=
  if (v 23) = 0 then
    (0, v, f)
  else
    let t2 : Int32 := (v 22) + 1
    let t3 : Int32 := (v 23) - 1
    let t4 : Int32 := (v 21) + t2
    let t5 : Int32 := t4 - t4 / 41 * 41
    match gsX_X1_loadFrom_1 NF t5 (upd (upd v 22 t2) 23 t3) f with
    | (v7, f8) =>
      (1, v7, f8)
theorem gsX_X5_stepOn_1_q0 {NF : Nat} {v : Nat → Int32} {f : Nat → Nat → Int32} {t2 : Int32} {t3 : Int32} {t4 : Int32} {t5 : Int32} {v7 : Nat → Int32} {f8 : Nat → Nat → Int32} (h0 : ¬ ((v 23) = 0)) (h1 : t2 = (v 22) + 1) (h2 : t3 = (v 23) - 1) (h3 : t4 = (v 21) + t2) (h4 : t5 = t4 - t4 / 41 * 41) (h5 : gsX_X1_loadFrom_1 NF t5 (upd (upd v 22 t2) 23 t3) f = (v7, f8)) : gsX_X5_stepOn_1 NF v f = (1, v7, f8) := by
  subst h1 h2 h3 h4
  simp only [gsX_X5_stepOn_1, if_neg h0, h5]
theorem gsX_X5_stepOn_1_q1 {NF : Nat} {v : Nat → Int32} {f : Nat → Nat → Int32} (h0 : ((v 23) = 0)) : gsX_X5_stepOn_1 NF v f = (0, v, f) := by
  simp only [gsX_X5_stepOn_1, if_pos h0]
def gsX_X10_redo_1 (NF : Nat) (v : Nat → Int32) (f : Nat → Nat → Int32) : Int32 × (Nat → Int32) × (Nat → Nat → Int32) :=
  match gsX_X5_stepOn_1 NF v f with
  | (r1, v3, f4) =>
    if r1 = 1 then
      (1, v3, f4)
    else
      (0, v3, f4)
theorem gsX_X10_redo_1_q0 {NF : Nat} {v : Nat → Int32} {f : Nat → Nat → Int32} {v3 : Nat → Int32} {f4 : Nat → Nat → Int32} (h0 : gsX_X5_stepOn_1 NF v f = (1, v3, f4)) : gsX_X10_redo_1 NF v f = (1, v3, f4) := by
  simp only [gsX_X10_redo_1, h0, ite11, ite01, if_true, if_false]
theorem gsX_X10_redo_1_q1 {NF : Nat} {v : Nat → Int32} {f : Nat → Nat → Int32} {v3 : Nat → Int32} {f4 : Nat → Nat → Int32} (h0 : gsX_X5_stepOn_1 NF v f = (0, v3, f4)) : gsX_X10_redo_1 NF v f = (0, v3, f4) := by
  simp only [gsX_X10_redo_1, h0, ite11, ite01, if_true, if_false]
def gsX_X1_saveTo_2 (NF : Nat) (p2 : Int32) (v : Nat → Int32) (f : Nat → Nat → Int32) : (Nat → Int32) × (Nat → Nat → Int32) :=
  if p2 < 0 then
    (v, f)
  else
    if 3 ≤ p2 then
      (v, f)
    else
      let t3 : Int32 := p2 * 44
      let f5 : Nat → Nat → Int32 := upd2 f 16 (va_cpy (f 15) (f 16) (0 : Int32).toNatClampNeg (t3).toNatClampNeg (44 : Int32).toNatClampNeg)
      (v, f5)
theorem gsX_X1_saveTo_2_q0 {NF : Nat} {p2 : Int32} {v : Nat → Int32} {f : Nat → Nat → Int32} (h0 : (p2 < 0)) : gsX_X1_saveTo_2 NF p2 v f = (v, f) := by
  simp only [gsX_X1_saveTo_2, if_pos h0]
theorem gsX_X1_saveTo_2_q1 {NF : Nat} {p2 : Int32} {v : Nat → Int32} {f : Nat → Nat → Int32} (h0 : ¬ (p2 < 0)) (h1 : (3 ≤ p2)) : gsX_X1_saveTo_2 NF p2 v f = (v, f) := by
  simp only [gsX_X1_saveTo_2, if_neg h0, if_pos h1]
theorem gsX_X1_saveTo_2_q2 {NF : Nat} {p2 : Int32} {v : Nat → Int32} {f : Nat → Nat → Int32} {t3 : Int32} {f5 : Nat → Nat → Int32} (h0 : ¬ (p2 < 0)) (h1 : ¬ (3 ≤ p2)) (h2 : t3 = p2 * 44) (h3 : f5 = upd2 f 16 (va_cpy (f 15) (f 16) (0 : Int32).toNatClampNeg (t3).toNatClampNeg (44 : Int32).toNatClampNeg)) : gsX_X1_saveTo_2 NF p2 v f = (v, f5) := by
  subst h2 h3
  simp only [gsX_X1_saveTo_2, if_neg h0, if_neg h1]
def gsX_X5_fillBox_1 (NF : Nat) (p1 : Int32) (v : Nat → Int32) (f : Nat → Nat → Int32) : Int32 × (Nat → Int32) × (Nat → Nat → Int32) :=
  if p1 < 0 then
    (0, v, f)
  else
    if p1 < 3 then
      match gsX_X1_saveTo_2 NF p1 v f with
      | (v4, f5) =>
        let t6 : Int32 := 1 <<< (p1 &&& 31)
        let t7 : Int32 := (v4 20) ||| t6
        (1, (upd v4 20 t7), f5)
    else
      (0, v, f)
theorem gsX_X5_fillBox_1_q0 {NF : Nat} {p1 : Int32} {v : Nat → Int32} {f : Nat → Nat → Int32} (h0 : (p1 < 0)) : gsX_X5_fillBox_1 NF p1 v f = (0, v, f) := by
  simp only [gsX_X5_fillBox_1, if_pos h0]
theorem gsX_X5_fillBox_1_q1 {NF : Nat} {p1 : Int32} {v : Nat → Int32} {f : Nat → Nat → Int32} {v4 : Nat → Int32} {f5 : Nat → Nat → Int32} {t6 : Int32} {t7 : Int32} (h0 : ¬ (p1 < 0)) (h1 : (p1 < 3)) (h2 : gsX_X1_saveTo_2 NF p1 v f = (v4, f5)) (h3 : t6 = 1 <<< (p1 &&& 31)) (h4 : t7 = (v4 20) ||| t6) : gsX_X5_fillBox_1 NF p1 v f = (1, (upd v4 20 t7), f5) := by
  subst h3 h4
  simp only [gsX_X5_fillBox_1, if_neg h0, if_pos h1, h2]
theorem gsX_X5_fillBox_1_q2 {NF : Nat} {p1 : Int32} {v : Nat → Int32} {f : Nat → Nat → Int32} (h0 : ¬ (p1 < 0)) (h1 : ¬ (p1 < 3)) : gsX_X5_fillBox_1 NF p1 v f = (0, v, f) := by
  simp only [gsX_X5_fillBox_1, if_neg h0, if_neg h1]
def gsX_X10_image_1 (NF : Nat) (p1 : Int32) (v : Nat → Int32) (f : Nat → Nat → Int32) : Int32 × (Nat → Int32) × (Nat → Nat → Int32) :=
  match gsX_X5_fillBox_1 NF p1 v f with
  | (r1, v3, f4) =>
    if r1 = 1 then
      let r6 : Int32 := gsX_X1_today_1 NF v3 f4
      (r6, v3, f4)
    else
      ((-1), v3, f4)
theorem gsX_X10_image_1_q0 {NF : Nat} {p1 : Int32} {v : Nat → Int32} {f : Nat → Nat → Int32} {v3 : Nat → Int32} {f4 : Nat → Nat → Int32} {r6 : Int32} (h0 : gsX_X5_fillBox_1 NF p1 v f = (1, v3, f4)) (h2 : r6 = gsX_X1_today_1 NF v3 f4) : gsX_X10_image_1 NF p1 v f = (r6, v3, f4) := by
  subst h2
  simp only [gsX_X10_image_1, h0, ite11, ite01, if_true, if_false]
theorem gsX_X10_image_1_q1 {NF : Nat} {p1 : Int32} {v : Nat → Int32} {f : Nat → Nat → Int32} {v3 : Nat → Int32} {f4 : Nat → Nat → Int32} (h0 : gsX_X5_fillBox_1 NF p1 v f = (0, v3, f4)) : gsX_X10_image_1 NF p1 v f = ((-1), v3, f4) := by
  simp only [gsX_X10_image_1, h0, ite11, ite01, if_true, if_false]
def gsX_X1_loadFrom_2 (NF : Nat) (p2 : Int32) (v : Nat → Int32) (f : Nat → Nat → Int32) : (Nat → Int32) × (Nat → Nat → Int32) :=
  if p2 < 0 then
    (v, f)
  else
    if 3 ≤ p2 then
      (v, f)
    else
      let t3 : Int32 := p2 * 44
      let f5 : Nat → Nat → Int32 := upd2 f 15 (va_cpy (f 16) (f 15) (t3).toNatClampNeg (0 : Int32).toNatClampNeg (44 : Int32).toNatClampNeg)
      (v, f5)
theorem gsX_X1_loadFrom_2_q0 {NF : Nat} {p2 : Int32} {v : Nat → Int32} {f : Nat → Nat → Int32} (h0 : (p2 < 0)) : gsX_X1_loadFrom_2 NF p2 v f = (v, f) := by
  simp only [gsX_X1_loadFrom_2, if_pos h0]
theorem gsX_X1_loadFrom_2_q1 {NF : Nat} {p2 : Int32} {v : Nat → Int32} {f : Nat → Nat → Int32} (h0 : ¬ (p2 < 0)) (h1 : (3 ≤ p2)) : gsX_X1_loadFrom_2 NF p2 v f = (v, f) := by
  simp only [gsX_X1_loadFrom_2, if_neg h0, if_pos h1]
theorem gsX_X1_loadFrom_2_q2 {NF : Nat} {p2 : Int32} {v : Nat → Int32} {f : Nat → Nat → Int32} {t3 : Int32} {f5 : Nat → Nat → Int32} (h0 : ¬ (p2 < 0)) (h1 : ¬ (3 ≤ p2)) (h2 : t3 = p2 * 44) (h3 : f5 = upd2 f 15 (va_cpy (f 16) (f 15) (t3).toNatClampNeg (0 : Int32).toNatClampNeg (44 : Int32).toNatClampNeg)) : gsX_X1_loadFrom_2 NF p2 v f = (v, f5) := by
  subst h2 h3
  simp only [gsX_X1_loadFrom_2, if_neg h0, if_neg h1]
def gsX_X5_takeBox_1 (NF : Nat) (p1 : Int32) (v : Nat → Int32) (f : Nat → Nat → Int32) : Int32 × (Nat → Int32) × (Nat → Nat → Int32) :=
  if p1 < 0 then
    (0, v, f)
  else
    if 3 ≤ p1 then
      (0, v, f)
    else
      let t3 : Int32 := (v 20) >>> (p1 &&& 31)
      let t4 : Int32 := t3 &&& 1
      if t4 = 0 then
        (0, v, f)
      else
        match gsX_X1_loadFrom_2 NF p1 v f with
        | (v7, f8) =>
          match gsX_X5_forgetActs_1 NF v7 f8 with
          | (v10, f11) =>
            (1, v10, f11)
theorem gsX_X5_takeBox_1_q0 {NF : Nat} {p1 : Int32} {v : Nat → Int32} {f : Nat → Nat → Int32} (h0 : (p1 < 0)) : gsX_X5_takeBox_1 NF p1 v f = (0, v, f) := by
  simp only [gsX_X5_takeBox_1, if_pos h0]
theorem gsX_X5_takeBox_1_q1 {NF : Nat} {p1 : Int32} {v : Nat → Int32} {f : Nat → Nat → Int32} (h0 : ¬ (p1 < 0)) (h1 : (3 ≤ p1)) : gsX_X5_takeBox_1 NF p1 v f = (0, v, f) := by
  simp only [gsX_X5_takeBox_1, if_neg h0, if_pos h1]
theorem gsX_X5_takeBox_1_q2 {NF : Nat} {p1 : Int32} {v : Nat → Int32} {f : Nat → Nat → Int32} {t3 : Int32} {t4 : Int32} {v7 : Nat → Int32} {f8 : Nat → Nat → Int32} {v10 : Nat → Int32} {f11 : Nat → Nat → Int32} (h0 : ¬ (p1 < 0)) (h1 : ¬ (3 ≤ p1)) (h2 : t3 = (v 20) >>> (p1 &&& 31)) (h3 : t4 = t3 &&& 1) (h4 : ¬ (t4 = 0)) (h5 : gsX_X1_loadFrom_2 NF p1 v f = (v7, f8)) (h6 : gsX_X5_forgetActs_1 NF v7 f8 = (v10, f11)) : gsX_X5_takeBox_1 NF p1 v f = (1, v10, f11) := by
  subst h2 h3
  simp only [gsX_X5_takeBox_1, if_neg h0, if_neg h1, if_neg h4, h5, h6]
theorem gsX_X5_takeBox_1_q3 {NF : Nat} {p1 : Int32} {v : Nat → Int32} {f : Nat → Nat → Int32} {t3 : Int32} {t4 : Int32} (h0 : ¬ (p1 < 0)) (h1 : ¬ (3 ≤ p1)) (h2 : t3 = (v 20) >>> (p1 &&& 31)) (h3 : t4 = t3 &&& 1) (h4 : (t4 = 0)) : gsX_X5_takeBox_1 NF p1 v f = (0, v, f) := by
  subst h2 h3
  simp only [gsX_X5_takeBox_1, if_neg h0, if_neg h1, if_pos h4]
def gsX_X10_back_1 (NF : Nat) (p1 : Int32) (v : Nat → Int32) (f : Nat → Nat → Int32) : Int32 × (Nat → Int32) × (Nat → Nat → Int32) :=
  match gsX_X5_takeBox_1 NF p1 v f with
  | (r1, v3, f4) =>
    if r1 = 1 then
      let r6 : Int32 := gsX_X1_today_1 NF v3 f4
      (r6, v3, f4)
    else
      ((-1), v3, f4)
theorem gsX_X10_back_1_q0 {NF : Nat} {p1 : Int32} {v : Nat → Int32} {f : Nat → Nat → Int32} {v3 : Nat → Int32} {f4 : Nat → Nat → Int32} {r6 : Int32} (h0 : gsX_X5_takeBox_1 NF p1 v f = (1, v3, f4)) (h2 : r6 = gsX_X1_today_1 NF v3 f4) : gsX_X10_back_1 NF p1 v f = (r6, v3, f4) := by
  subst h2
  simp only [gsX_X10_back_1, h0, ite11, ite01, if_true, if_false]
theorem gsX_X10_back_1_q1 {NF : Nat} {p1 : Int32} {v : Nat → Int32} {f : Nat → Nat → Int32} {v3 : Nat → Int32} {f4 : Nat → Nat → Int32} (h0 : gsX_X5_takeBox_1 NF p1 v f = (0, v3, f4)) : gsX_X10_back_1 NF p1 v f = ((-1), v3, f4) := by
  simp only [gsX_X10_back_1, h0, ite11, ite01, if_true, if_false]
def gsY_X11_four_1_L1 (NF : Nat) (p1 : Int32) : Nat → (Int32) → (Nat → Int32) → (Nat → Nat → Int32) → (Int64) → (Nat → Int64) → (Nat → Int32) × (Nat → Nat → Int32) × (Int64) × (Nat → Int64)
  | 0, _, _, _, _, _ => ((fun _ => 0), (fun _ _ => 0), 0, (fun _ => 0))
  | n1 + 1, l2_1, v1, f1, w1, g1 =>
    if l2_1 < 0 then
      (v1, f1, w1, g1)
    else
      let t3 : Int32 := p1 >>> (l2_1 &&& 31)
      let t4 : Int32 := t3 &&& 255
      let f5 : Nat → Nat → Int32 := upd2 f1 0 (upd (f1 0) (v1 0).toNatClampNeg t4)
      let t6 : Int32 := (v1 0) + 1
      let t8 : Int32 := l2_1 + (-8)
      gsY_X11_four_1_L1 NF p1 n1 t8 (upd v1 0 t6) f5 w1 g1
def gsY_X11_four_1 (NF : Nat) (p1 : Int32) (v : Nat → Int32) (f : Nat → Nat → Int32) (w : Int64) (g : Nat → Int64) : (Nat → Int32) × (Nat → Nat → Int32) × (Int64) × (Nat → Int64) :=
  gsY_X11_four_1_L1 NF p1 (4294967296 + NF) 24 v f w g
theorem gsY_X11_four_1_q2 {NF : Nat} {p1 : Int32} {v : Nat → Int32} {f : Nat → Nat → Int32} {w : Int64} {g : Nat → Int64}  : gsY_X11_four_1 NF p1 v f w g = gsY_X11_four_1_L1 NF p1 (4294967296 + NF) 24 v f w g := by
  simp only [gsY_X11_four_1]
theorem gsY_X11_four_1_q0 {NF : Nat} {p1 : Int32} {n1 : Nat} {l2_1 : Int32} {v1 : Nat → Int32} {f1 : Nat → Nat → Int32} {w1 : Int64} {g1 : Nat → Int64} (h0 : (l2_1 < 0)) : gsY_X11_four_1_L1 NF p1 (n1 + 1) l2_1 v1 f1 w1 g1 = (v1, f1, w1, g1) := by
  simp only [gsY_X11_four_1_L1, if_pos h0]
theorem gsY_X11_four_1_q1 {NF : Nat} {p1 : Int32} {n1 : Nat} {l2_1 : Int32} {v1 : Nat → Int32} {f1 : Nat → Nat → Int32} {w1 : Int64} {g1 : Nat → Int64} {t3 : Int32} {t4 : Int32} {f5 : Nat → Nat → Int32} {t6 : Int32} {t8 : Int32} (h0 : ¬ (l2_1 < 0)) (h1 : t3 = p1 >>> (l2_1 &&& 31)) (h2 : t4 = t3 &&& 255) (h3 : f5 = upd2 f1 0 (upd (f1 0) (v1 0).toNatClampNeg t4)) (h4 : t6 = (v1 0) + 1) (h5 : t8 = l2_1 + (-8)) : gsY_X11_four_1_L1 NF p1 (n1 + 1) l2_1 v1 f1 w1 g1 = gsY_X11_four_1_L1 NF p1 n1 t8 (upd v1 0 t6) f5 w1 g1 := by
  subst h1 h2 h3 h4 h5
  simp only [gsY_X11_four_1_L1, if_neg h0]
def gsY_X11_feed_1 (NF : Nat) (p1 : Int32) (p2 : Int32) (p3 : Int32) (p4 : Int32) (p5 : Int32) (v : Nat → Int32) (f : Nat → Nat → Int32) (w : Int64) (g : Nat → Int64) : Int32 × (Nat → Int32) × (Nat → Nat → Int32) × (Int64) × (Nat → Int64) :=
  let t1 : Int32 := (v 0) + 20
  if t1 ≤ 1600 then
    match gsY_X11_four_1 NF p1 v f w g with
    | (v5, f6, w7, g8) =>
      match gsY_X11_four_1 NF p2 v5 f6 w7 g8 with
      | (v11, f12, w13, g14) =>
        match gsY_X11_four_1 NF p3 v11 f12 w13 g14 with
        | (v17, f18, w19, g20) =>
          match gsY_X11_four_1 NF p4 v17 f18 w19 g20 with
          | (v23, f24, w25, g26) =>
            match gsY_X11_four_1 NF p5 v23 f24 w25 g26 with
            | (v29, f30, w31, g32) =>
              ((v29 0), v29, f30, w31, g32)
  else
    ((-1), v, f, w, g)
theorem gsY_X11_feed_1_q0 {NF : Nat} {p1 : Int32} {p2 : Int32} {p3 : Int32} {p4 : Int32} {p5 : Int32} {v : Nat → Int32} {f : Nat → Nat → Int32} {w : Int64} {g : Nat → Int64} {t1 : Int32} {v5 : Nat → Int32} {f6 : Nat → Nat → Int32} {w7 : Int64} {g8 : Nat → Int64} {v11 : Nat → Int32} {f12 : Nat → Nat → Int32} {w13 : Int64} {g14 : Nat → Int64} {v17 : Nat → Int32} {f18 : Nat → Nat → Int32} {w19 : Int64} {g20 : Nat → Int64} {v23 : Nat → Int32} {f24 : Nat → Nat → Int32} {w25 : Int64} {g26 : Nat → Int64} {v29 : Nat → Int32} {f30 : Nat → Nat → Int32} {w31 : Int64} {g32 : Nat → Int64} (h0 : t1 = (v 0) + 20) (h1 : (t1 ≤ 1600)) (h2 : gsY_X11_four_1 NF p1 v f w g = (v5, f6, w7, g8)) (h3 : gsY_X11_four_1 NF p2 v5 f6 w7 g8 = (v11, f12, w13, g14)) (h4 : gsY_X11_four_1 NF p3 v11 f12 w13 g14 = (v17, f18, w19, g20)) (h5 : gsY_X11_four_1 NF p4 v17 f18 w19 g20 = (v23, f24, w25, g26)) (h6 : gsY_X11_four_1 NF p5 v23 f24 w25 g26 = (v29, f30, w31, g32)) : gsY_X11_feed_1 NF p1 p2 p3 p4 p5 v f w g = ((v29 0), v29, f30, w31, g32) := by
  subst h0
  simp only [gsY_X11_feed_1, if_pos h1, h2, h3, h4, h5, h6]
theorem gsY_X11_feed_1_q1 {NF : Nat} {p1 : Int32} {p2 : Int32} {p3 : Int32} {p4 : Int32} {p5 : Int32} {v : Nat → Int32} {f : Nat → Nat → Int32} {w : Int64} {g : Nat → Int64} {t1 : Int32} (h0 : t1 = (v 0) + 20) (h1 : ¬ (t1 ≤ 1600)) : gsY_X11_feed_1 NF p1 p2 p3 p4 p5 v f w g = ((-1), v, f, w, g) := by
  subst h0
  simp only [gsY_X11_feed_1, if_neg h1]
