def gsY_X11_hem_1 (NF : Nat) (p1 : Int32) (p2 : Int32) (v : Nat → Int32) (f : Nat → Nat → Int32) (w : Int64) (g : Nat → Int64) : Int32 × (Nat → Int32) × (Nat → Nat → Int32) × (Int64) × (Nat → Int64) :=
  if gsY_X11_isCoat_1 NF p1 v f w g = 1 then
    let t4 : Int32 := 12 + p1
    let t6 : Int32 := f 23 (t4).toNatClampNeg
    if gsY_X11_isIn_1 NF p2 1 t6 v f w g = 1 then
      match gsY_X11_act_1 NF v f w g with
      | (v12, f13, w14, g15) =>
        let t16 : Int32 := f13 23 (t4).toNatClampNeg
        let t17 : Int32 := t16 - p2
        let f18 : Nat → Nat → Int32 := upd2 f13 23 (upd (f13 23) t4.toNatClampNeg t17)
        let t19 : Int32 := f18 23 (t4).toNatClampNeg
        (t19, v12, f18, w14, g15)
    else
      ((-1), v, f, w, g)
  else
    ((-1), v, f, w, g)
theorem gsY_X11_hem_1_q0 {NF : Nat} {p1 : Int32} {p2 : Int32} {v : Nat → Int32} {f : Nat → Nat → Int32} {w : Int64} {g : Nat → Int64} {t4 : Int32} {t6 : Int32} {v12 : Nat → Int32} {f13 : Nat → Nat → Int32} {w14 : Int64} {g15 : Nat → Int64} {t16 : Int32} {t17 : Int32} {f18 : Nat → Nat → Int32} {t19 : Int32} (h0 : gsY_X11_isCoat_1 NF p1 v f w g = 1) (h1 : t4 = 12 + p1) (h2 : t6 = f 23 (t4).toNatClampNeg) (h3 : gsY_X11_isIn_1 NF p2 1 t6 v f w g = 1) (h4 : gsY_X11_act_1 NF v f w g = (v12, f13, w14, g15)) (h5 : t16 = f13 23 (t4).toNatClampNeg) (h6 : t17 = t16 - p2) (h7 : f18 = upd2 f13 23 (upd (f13 23) t4.toNatClampNeg t17)) (h8 : t19 = f18 23 (t4).toNatClampNeg) : gsY_X11_hem_1 NF p1 p2 v f w g = (t19, v12, f18, w14, g15) := by
  subst h1 h2 h5 h6 h7 h8
  simp only [gsY_X11_hem_1, h0, h3, h4, ite11, ite01, if_true, if_false]
theorem gsY_X11_hem_1_q1 {NF : Nat} {p1 : Int32} {p2 : Int32} {v : Nat → Int32} {f : Nat → Nat → Int32} {w : Int64} {g : Nat → Int64} {t4 : Int32} {t6 : Int32} (h0 : gsY_X11_isCoat_1 NF p1 v f w g = 1) (h1 : t4 = 12 + p1) (h2 : t6 = f 23 (t4).toNatClampNeg) (h3 : gsY_X11_isIn_1 NF p2 1 t6 v f w g = 0) : gsY_X11_hem_1 NF p1 p2 v f w g = ((-1), v, f, w, g) := by
  subst h1 h2
  simp only [gsY_X11_hem_1, h0, h3, ite11, ite01, if_true, if_false]
theorem gsY_X11_hem_1_q2 {NF : Nat} {p1 : Int32} {p2 : Int32} {v : Nat → Int32} {f : Nat → Nat → Int32} {w : Int64} {g : Nat → Int64} (h0 : gsY_X11_isCoat_1 NF p1 v f w g = 0) : gsY_X11_hem_1 NF p1 p2 v f w g = ((-1), v, f, w, g) := by
  simp only [gsY_X11_hem_1, h0, ite11, ite01, if_true, if_false]
def gsY_X11_turn_1 (NF : Nat) (p1 : Int32) (v : Nat → Int32) (f : Nat → Nat → Int32) (w : Int64) (g : Nat → Int64) : Int32 × (Nat → Int32) × (Nat → Nat → Int32) × (Int64) × (Nat → Int64) :=
  if gsY_X11_isCoat_1 NF p1 v f w g = 1 then
    let t4 : Int32 := f 23 (36 : Int32).toNatClampNeg
    let t5 : Int32 := t4 >>> (p1 &&& 31)
    let t6 : Int32 := t5 &&& 1
    if t6 = 1 then
      ((-1), v, f, w, g)
    else
      match gsY_X11_act_1 NF v f w g with
      | (v9, f10, w11, g12) =>
        let t13 : Int32 := 30 + p1
        let t15 : Int32 := f10 23 (t13).toNatClampNeg
        let f16 : Nat → Nat → Int32 := upd2 f10 23 (upd (f10 23) t13.toNatClampNeg 0)
        let t17 : Int32 := f16 23 (36 : Int32).toNatClampNeg
        let t18 : Int32 := 1 <<< (p1 &&& 31)
        let t19 : Int32 := t17 ||| t18
        let f20 : Nat → Nat → Int32 := upd2 f16 23 (upd (f16 23) (36 : Int32).toNatClampNeg t19)
        (t15, v9, f20, w11, g12)
  else
    ((-1), v, f, w, g)
theorem gsY_X11_turn_1_q0 {NF : Nat} {p1 : Int32} {v : Nat → Int32} {f : Nat → Nat → Int32} {w : Int64} {g : Nat → Int64} {t4 : Int32} {t5 : Int32} {t6 : Int32} {v9 : Nat → Int32} {f10 : Nat → Nat → Int32} {w11 : Int64} {g12 : Nat → Int64} {t13 : Int32} {t15 : Int32} {f16 : Nat → Nat → Int32} {t17 : Int32} {t18 : Int32} {t19 : Int32} {f20 : Nat → Nat → Int32} (h0 : gsY_X11_isCoat_1 NF p1 v f w g = 1) (h1 : t4 = f 23 (36 : Int32).toNatClampNeg) (h2 : t5 = t4 >>> (p1 &&& 31)) (h3 : t6 = t5 &&& 1) (h4 : ¬ (t6 = 1)) (h5 : gsY_X11_act_1 NF v f w g = (v9, f10, w11, g12)) (h6 : t13 = 30 + p1) (h7 : t15 = f10 23 (t13).toNatClampNeg) (h8 : f16 = upd2 f10 23 (upd (f10 23) t13.toNatClampNeg 0)) (h9 : t17 = f16 23 (36 : Int32).toNatClampNeg) (h10 : t18 = 1 <<< (p1 &&& 31)) (h11 : t19 = t17 ||| t18) (h12 : f20 = upd2 f16 23 (upd (f16 23) (36 : Int32).toNatClampNeg t19)) : gsY_X11_turn_1 NF p1 v f w g = (t15, v9, f20, w11, g12) := by
  subst h1 h2 h3 h6 h7 h8 h9 h10 h11 h12
  simp only [gsY_X11_turn_1, h0, if_neg h4, h5, ite11, ite01, if_true, if_false]
theorem gsY_X11_turn_1_q1 {NF : Nat} {p1 : Int32} {v : Nat → Int32} {f : Nat → Nat → Int32} {w : Int64} {g : Nat → Int64} {t4 : Int32} {t5 : Int32} {t6 : Int32} (h0 : gsY_X11_isCoat_1 NF p1 v f w g = 1) (h1 : t4 = f 23 (36 : Int32).toNatClampNeg) (h2 : t5 = t4 >>> (p1 &&& 31)) (h3 : t6 = t5 &&& 1) (h4 : (t6 = 1)) : gsY_X11_turn_1 NF p1 v f w g = ((-1), v, f, w, g) := by
  subst h1 h2 h3
  simp only [gsY_X11_turn_1, h0, if_pos h4, ite11, ite01, if_true, if_false]
theorem gsY_X11_turn_1_q2 {NF : Nat} {p1 : Int32} {v : Nat → Int32} {f : Nat → Nat → Int32} {w : Int64} {g : Nat → Int64} (h0 : gsY_X11_isCoat_1 NF p1 v f w g = 0) : gsY_X11_turn_1 NF p1 v f w g = ((-1), v, f, w, g) := by
  simp only [gsY_X11_turn_1, h0, ite11, ite01, if_true, if_false]
def gsY_X11_exchange_1_L1 (NF : Nat) (p1 : Int32) : Nat → (Int32) → (Nat → Int32) → (Nat → Nat → Int32) → (Int64) → (Nat → Int64) → (Nat → Int32) × (Nat → Nat → Int32) × (Int64) × (Nat → Int64)
  | 0, _, _, _, _, _ => ((fun _ => 0), (fun _ _ => 0), 0, (fun _ => 0))
  | n1 + 1, l2_1, v1, f1, w1, g1 =>
    if 39 ≤ l2_1 then
      (v1, f1, w1, g1)
    else
      let t3 : Int32 := p1 + l2_1
      let t6 : Int32 := f1 25 (t3).toNatClampNeg
      let t7 : Int32 := f1 23 (l2_1).toNatClampNeg
      let f8 : Nat → Nat → Int32 := upd2 f1 25 (upd (f1 25) t3.toNatClampNeg t7)
      let f9 : Nat → Nat → Int32 := upd2 f8 23 (upd (f8 23) l2_1.toNatClampNeg t6)
      let t10 : Int32 := l2_1 + 1
      gsY_X11_exchange_1_L1 NF p1 n1 t10 v1 f9 w1 g1
def gsY_X11_exchange_1 (NF : Nat) (p1 : Int32) (v : Nat → Int32) (f : Nat → Nat → Int32) (w : Int64) (g : Nat → Int64) : (Nat → Int32) × (Nat → Nat → Int32) × (Int64) × (Nat → Int64) :=
  gsY_X11_exchange_1_L1 NF p1 (4294967296 + NF) 0 v f w g
theorem gsY_X11_exchange_1_q2 {NF : Nat} {p1 : Int32} {v : Nat → Int32} {f : Nat → Nat → Int32} {w : Int64} {g : Nat → Int64}  : gsY_X11_exchange_1 NF p1 v f w g = gsY_X11_exchange_1_L1 NF p1 (4294967296 + NF) 0 v f w g := by
  simp only [gsY_X11_exchange_1]
theorem gsY_X11_exchange_1_q0 {NF : Nat} {p1 : Int32} {n1 : Nat} {l2_1 : Int32} {v1 : Nat → Int32} {f1 : Nat → Nat → Int32} {w1 : Int64} {g1 : Nat → Int64} (h0 : (39 ≤ l2_1)) : gsY_X11_exchange_1_L1 NF p1 (n1 + 1) l2_1 v1 f1 w1 g1 = (v1, f1, w1, g1) := by
  simp only [gsY_X11_exchange_1_L1, if_pos h0]
theorem gsY_X11_exchange_1_q1 {NF : Nat} {p1 : Int32} {n1 : Nat} {l2_1 : Int32} {v1 : Nat → Int32} {f1 : Nat → Nat → Int32} {w1 : Int64} {g1 : Nat → Int64} {t3 : Int32} {t6 : Int32} {t7 : Int32} {f8 : Nat → Nat → Int32} {f9 : Nat → Nat → Int32} {t10 : Int32} (h0 : ¬ (39 ≤ l2_1)) (h1 : t3 = p1 + l2_1) (h2 : t6 = f1 25 (t3).toNatClampNeg) (h3 : t7 = f1 23 (l2_1).toNatClampNeg) (h4 : f8 = upd2 f1 25 (upd (f1 25) t3.toNatClampNeg t7)) (h5 : f9 = upd2 f8 23 (upd (f8 23) l2_1.toNatClampNeg t6)) (h6 : t10 = l2_1 + 1) : gsY_X11_exchange_1_L1 NF p1 (n1 + 1) l2_1 v1 f1 w1 g1 = gsY_X11_exchange_1_L1 NF p1 n1 t10 v1 f9 w1 g1 := by
  subst h1 h2 h3 h4 h5 h6
  simp only [gsY_X11_exchange_1_L1, if_neg h0]
def gsY_X11_undo_1 (NF : Nat) (v : Nat → Int32) (f : Nat → Nat → Int32) (w : Int64) (g : Nat → Int64) : Int32 × (Nat → Int32) × (Nat → Nat → Int32) × (Int64) × (Nat → Int64) :=
  if (v 35) = 0 then
    (0, v, f, w, g)
  else
    let t2 : Int32 := (v 35) - 1
    let t4 : Int32 := (v 36) + 1
    let t6 : Int32 := 39 * t2
    match gsY_X11_exchange_1 NF t6 (upd (upd v 35 t2) 36 t4) f w g with
    | (v9, f10, w11, g12) =>
      (1, v9, f10, w11, g12)
theorem gsY_X11_undo_1_q0 {NF : Nat} {v : Nat → Int32} {f : Nat → Nat → Int32} {w : Int64} {g : Nat → Int64} {t2 : Int32} {t4 : Int32} {t6 : Int32} {v9 : Nat → Int32} {f10 : Nat → Nat → Int32} {w11 : Int64} {g12 : Nat → Int64} (h0 : ¬ ((v 35) = 0)) (h1 : t2 = (v 35) - 1) (h2 : t4 = (v 36) + 1) (h3 : t6 = 39 * t2) (h4 : gsY_X11_exchange_1 NF t6 (upd (upd v 35 t2) 36 t4) f w g = (v9, f10, w11, g12)) : gsY_X11_undo_1 NF v f w g = (1, v9, f10, w11, g12) := by
  subst h1 h2 h3
  simp only [gsY_X11_undo_1, if_neg h0, h4]
theorem gsY_X11_undo_1_q1 {NF : Nat} {v : Nat → Int32} {f : Nat → Nat → Int32} {w : Int64} {g : Nat → Int64} (h0 : ((v 35) = 0)) : gsY_X11_undo_1 NF v f w g = (0, v, f, w, g) := by
  simp only [gsY_X11_undo_1, if_pos h0]
def gsY_X11_redo_1 (NF : Nat) (v : Nat → Int32) (f : Nat → Nat → Int32) (w : Int64) (g : Nat → Int64) : Int32 × (Nat → Int32) × (Nat → Nat → Int32) × (Int64) × (Nat → Int64) :=
  if (v 36) = 0 then
    (0, v, f, w, g)
  else
    let t2 : Int32 := 39 * (v 35)
    match gsY_X11_exchange_1 NF t2 v f w g with
    | (v5, f6, w7, g8) =>
      let t9 : Int32 := (v 35) + 1
      let t10 : Int32 := (v 36) - 1
      (1, (upd (upd v5 35 t9) 36 t10), f6, w7, g8)
theorem gsY_X11_redo_1_q0 {NF : Nat} {v : Nat → Int32} {f : Nat → Nat → Int32} {w : Int64} {g : Nat → Int64} {t2 : Int32} {v5 : Nat → Int32} {f6 : Nat → Nat → Int32} {w7 : Int64} {g8 : Nat → Int64} {t9 : Int32} {t10 : Int32} (h0 : ¬ ((v 36) = 0)) (h1 : t2 = 39 * (v 35)) (h2 : gsY_X11_exchange_1 NF t2 v f w g = (v5, f6, w7, g8)) (h3 : t9 = (v 35) + 1) (h4 : t10 = (v 36) - 1) : gsY_X11_redo_1 NF v f w g = (1, (upd (upd v5 35 t9) 36 t10), f6, w7, g8) := by
  subst h1 h3 h4
  simp only [gsY_X11_redo_1, if_neg h0, h2]
theorem gsY_X11_redo_1_q1 {NF : Nat} {v : Nat → Int32} {f : Nat → Nat → Int32} {w : Int64} {g : Nat → Int64} (h0 : ((v 36) = 0)) : gsY_X11_redo_1 NF v f w g = (0, v, f, w, g) := by
  simp only [gsY_X11_redo_1, if_pos h0]
def gsY_X11_isBox_1 (NF : Nat) (p0 : Int32) (v : Nat → Int32) (f : Nat → Nat → Int32) (w : Int64) (g : Nat → Int64) : Int32 :=
  if p0 < 0 then
    0
  else
    if 3 ≤ p0 then
      0
    else
      1
theorem gsY_X11_isBox_1_q0 {NF : Nat} {p0 : Int32} {v : Nat → Int32} {f : Nat → Nat → Int32} {w : Int64} {g : Nat → Int64} (h0 : (p0 < 0)) : gsY_X11_isBox_1 NF p0 v f w g = 0 := by
  simp only [gsY_X11_isBox_1, if_pos h0]
theorem gsY_X11_isBox_1_q1 {NF : Nat} {p0 : Int32} {v : Nat → Int32} {f : Nat → Nat → Int32} {w : Int64} {g : Nat → Int64} (h0 : ¬ (p0 < 0)) (h1 : (3 ≤ p0)) : gsY_X11_isBox_1 NF p0 v f w g = 0 := by
  simp only [gsY_X11_isBox_1, if_neg h0, if_pos h1]
theorem gsY_X11_isBox_1_q2 {NF : Nat} {p0 : Int32} {v : Nat → Int32} {f : Nat → Nat → Int32} {w : Int64} {g : Nat → Int64} (h0 : ¬ (p0 < 0)) (h1 : ¬ (3 ≤ p0)) : gsY_X11_isBox_1 NF p0 v f w g = 1 := by
  simp only [gsY_X11_isBox_1, if_neg h0, if_neg h1]
def gsY_X11_image_1_L5 (NF : Nat) (p1 : Int32) : Nat → (Int32) → (Nat → Int32) → (Nat → Nat → Int32) → (Int64) → (Nat → Int64) → Int32 × (Nat → Int32) × (Nat → Nat → Int32) × (Int64) × (Nat → Int64)
  | 0, _, _, _, _, _ => (0, (fun _ => 0), (fun _ _ => 0), 0, (fun _ => 0))
  | n5 + 1, l2_5, v5, f5, w5, g5 =>
    if 39 ≤ l2_5 then
      let t7 : Int32 := f5 23 (37 : Int32).toNatClampNeg
      (t7, v5, f5, w5, g5)
    else
      let t8 : Int32 := 39 * p1
      let t10 : Int32 := t8 + l2_5
      let t13 : Int32 := f5 23 (l2_5).toNatClampNeg
      let f14 : Nat → Nat → Int32 := upd2 f5 37 (upd (f5 37) t10.toNatClampNeg t13)
      let t15 : Int32 := l2_5 + 1
      gsY_X11_image_1_L5 NF p1 n5 t15 v5 f14 w5 g5
def gsY_X11_image_1 (NF : Nat) (p1 : Int32) (v : Nat → Int32) (f : Nat → Nat → Int32) (w : Int64) (g : Nat → Int64) : Int32 × (Nat → Int32) × (Nat → Nat → Int32) × (Int64) × (Nat → Int64) :=
  if gsY_X11_isBox_1 NF p1 v f w g = 1 then
    let f4 : Nat → Nat → Int32 := upd2 f 36 (upd (f 36) p1.toNatClampNeg (vp_nar .boolean 1))
    gsY_X11_image_1_L5 NF p1 (4294967296 + NF) 0 v f4 w g
  else
    ((-1), v, f, w, g)
theorem gsY_X11_image_1_q2 {NF : Nat} {p1 : Int32} {v : Nat → Int32} {f : Nat → Nat → Int32} {w : Int64} {g : Nat → Int64} {f4 : Nat → Nat → Int32} (h0 : gsY_X11_isBox_1 NF p1 v f w g = 1) (h1 : f4 = upd2 f 36 (upd (f 36) p1.toNatClampNeg (vp_nar .boolean 1))) : gsY_X11_image_1 NF p1 v f w g = gsY_X11_image_1_L5 NF p1 (4294967296 + NF) 0 v f4 w g := by
  subst h1
  simp only [gsY_X11_image_1, h0, ite11, ite01, if_true, if_false]
theorem gsY_X11_image_1_q3 {NF : Nat} {p1 : Int32} {v : Nat → Int32} {f : Nat → Nat → Int32} {w : Int64} {g : Nat → Int64} (h0 : gsY_X11_isBox_1 NF p1 v f w g = 0) : gsY_X11_image_1 NF p1 v f w g = ((-1), v, f, w, g) := by
  simp only [gsY_X11_image_1, h0, ite11, ite01, if_true, if_false]
theorem gsY_X11_image_1_q0 {NF : Nat} {p1 : Int32} {n5 : Nat} {l2_5 : Int32} {v5 : Nat → Int32} {f5 : Nat → Nat → Int32} {w5 : Int64} {g5 : Nat → Int64} {t7 : Int32} (h0 : (39 ≤ l2_5)) (h1 : t7 = f5 23 (37 : Int32).toNatClampNeg) : gsY_X11_image_1_L5 NF p1 (n5 + 1) l2_5 v5 f5 w5 g5 = (t7, v5, f5, w5, g5) := by
  subst h1
  simp only [gsY_X11_image_1_L5, if_pos h0]
theorem gsY_X11_image_1_q1 {NF : Nat} {p1 : Int32} {n5 : Nat} {l2_5 : Int32} {v5 : Nat → Int32} {f5 : Nat → Nat → Int32} {w5 : Int64} {g5 : Nat → Int64} {t8 : Int32} {t10 : Int32} {t13 : Int32} {f14 : Nat → Nat → Int32} {t15 : Int32} (h0 : ¬ (39 ≤ l2_5)) (h1 : t8 = 39 * p1) (h2 : t10 = t8 + l2_5) (h3 : t13 = f5 23 (l2_5).toNatClampNeg) (h4 : f14 = upd2 f5 37 (upd (f5 37) t10.toNatClampNeg t13)) (h5 : t15 = l2_5 + 1) : gsY_X11_image_1_L5 NF p1 (n5 + 1) l2_5 v5 f5 w5 g5 = gsY_X11_image_1_L5 NF p1 n5 t15 v5 f14 w5 g5 := by
  subst h1 h2 h3 h4 h5
  simp only [gsY_X11_image_1_L5, if_neg h0]
def gsY_X11_back_1_L6 (NF : Nat) (p1 : Int32) : Nat → (Int32) → (Nat → Int32) → (Nat → Nat → Int32) → (Int64) → (Nat → Int64) → Int32 × (Nat → Int32) × (Nat → Nat → Int32) × (Int64) × (Nat → Int64)
  | 0, _, _, _, _, _ => (0, (fun _ => 0), (fun _ _ => 0), 0, (fun _ => 0))
  | n6 + 1, l2_6, v6, f6, w6, g6 =>
    if 39 ≤ l2_6 then
      let t8 : Int32 := f6 23 (37 : Int32).toNatClampNeg
      (t8, (upd (upd v6 35 0) 36 0), f6, w6, g6)
    else
      let t9 : Int32 := 39 * p1
      let t11 : Int32 := t9 + l2_6
      let t14 : Int32 := f6 37 (t11).toNatClampNeg
      let f15 : Nat → Nat → Int32 := upd2 f6 23 (upd (f6 23) l2_6.toNatClampNeg t14)
      let t16 : Int32 := l2_6 + 1
      gsY_X11_back_1_L6 NF p1 n6 t16 v6 f15 w6 g6
def gsY_X11_back_1 (NF : Nat) (p1 : Int32) (v : Nat → Int32) (f : Nat → Nat → Int32) (w : Int64) (g : Nat → Int64) : Int32 × (Nat → Int32) × (Nat → Nat → Int32) × (Int64) × (Nat → Int64) :=
  if gsY_X11_isBox_1 NF p1 v f w g = 1 then
    let t4 : Int32 := f 36 (p1).toNatClampNeg
    if t4 = 0 then
      ((-1), v, f, w, g)
    else
      gsY_X11_back_1_L6 NF p1 (4294967296 + NF) 0 v f w g
  else
    ((-1), v, f, w, g)
theorem gsY_X11_back_1_q2 {NF : Nat} {p1 : Int32} {v : Nat → Int32} {f : Nat → Nat → Int32} {w : Int64} {g : Nat → Int64} {t4 : Int32} (h0 : gsY_X11_isBox_1 NF p1 v f w g = 1) (h1 : t4 = f 36 (p1).toNatClampNeg) (h2 : ¬ (t4 = 0)) : gsY_X11_back_1 NF p1 v f w g = gsY_X11_back_1_L6 NF p1 (4294967296 + NF) 0 v f w g := by
  subst h1
  simp only [gsY_X11_back_1, h0, if_neg h2, ite11, ite01, if_true, if_false]
theorem gsY_X11_back_1_q3 {NF : Nat} {p1 : Int32} {v : Nat → Int32} {f : Nat → Nat → Int32} {w : Int64} {g : Nat → Int64} {t4 : Int32} (h0 : gsY_X11_isBox_1 NF p1 v f w g = 1) (h1 : t4 = f 36 (p1).toNatClampNeg) (h2 : (t4 = 0)) : gsY_X11_back_1 NF p1 v f w g = ((-1), v, f, w, g) := by
  subst h1
  simp only [gsY_X11_back_1, h0, if_pos h2, ite11, ite01, if_true, if_false]
theorem gsY_X11_back_1_q4 {NF : Nat} {p1 : Int32} {v : Nat → Int32} {f : Nat → Nat → Int32} {w : Int64} {g : Nat → Int64} (h0 : gsY_X11_isBox_1 NF p1 v f w g = 0) : gsY_X11_back_1 NF p1 v f w g = ((-1), v, f, w, g) := by
  simp only [gsY_X11_back_1, h0, ite11, ite01, if_true, if_false]
theorem gsY_X11_back_1_q0 {NF : Nat} {p1 : Int32} {n6 : Nat} {l2_6 : Int32} {v6 : Nat → Int32} {f6 : Nat → Nat → Int32} {w6 : Int64} {g6 : Nat → Int64} {t8 : Int32} (h0 : (39 ≤ l2_6)) (h1 : t8 = f6 23 (37 : Int32).toNatClampNeg) : gsY_X11_back_1_L6 NF p1 (n6 + 1) l2_6 v6 f6 w6 g6 = (t8, (upd (upd v6 35 0) 36 0), f6, w6, g6) := by
  subst h1
  simp only [gsY_X11_back_1_L6, if_pos h0]
theorem gsY_X11_back_1_q1 {NF : Nat} {p1 : Int32} {n6 : Nat} {l2_6 : Int32} {v6 : Nat → Int32} {f6 : Nat → Nat → Int32} {w6 : Int64} {g6 : Nat → Int64} {t9 : Int32} {t11 : Int32} {t14 : Int32} {f15 : Nat → Nat → Int32} {t16 : Int32} (h0 : ¬ (39 ≤ l2_6)) (h1 : t9 = 39 * p1) (h2 : t11 = t9 + l2_6) (h3 : t14 = f6 37 (t11).toNatClampNeg) (h4 : f15 = upd2 f6 23 (upd (f6 23) l2_6.toNatClampNeg t14)) (h5 : t16 = l2_6 + 1) : gsY_X11_back_1_L6 NF p1 (n6 + 1) l2_6 v6 f6 w6 g6 = gsY_X11_back_1_L6 NF p1 n6 t16 v6 f15 w6 g6 := by
  subst h1 h2 h3 h4 h5
  simp only [gsY_X11_back_1_L6, if_neg h0]
