def gsY_X11_misfit_1 (NF : Nat) (p1 : Int32) (p2 : Int32) (v : Nat → Int32) (f : Nat → Nat → Int32) (w : Int64) (g : Nat → Int64) : Int32 × (Nat → Int32) × (Nat → Nat → Int32) × (Int64) × (Nat → Int64) :=
  match gsY_X11_fill_1 NF v f w g with
  | (v2, f3, w4, g5) =>
    if gsY_X11_isMan_1 NF p1 v2 f3 w4 g5 = 1 then
      if gsY_X11_isCoat_1 NF p2 v2 f3 w4 g5 = 1 then
        match gsY_X11_misfitOf_1 NF p1 p2 v2 f3 w4 g5 with
        | (r12, v14, f15, w16, g17) =>
          (r12, v14, f15, w16, g17)
      else
        ((-1), v2, f3, w4, g5)
    else
      ((-1), v2, f3, w4, g5)
theorem gsY_X11_misfit_1_q0 {NF : Nat} {p1 : Int32} {p2 : Int32} {v : Nat → Int32} {f : Nat → Nat → Int32} {w : Int64} {g : Nat → Int64} {v2 : Nat → Int32} {f3 : Nat → Nat → Int32} {w4 : Int64} {g5 : Nat → Int64} {r12 : Int32} {v14 : Nat → Int32} {f15 : Nat → Nat → Int32} {w16 : Int64} {g17 : Nat → Int64} (h0 : gsY_X11_fill_1 NF v f w g = (v2, f3, w4, g5)) (h1 : gsY_X11_isMan_1 NF p1 v2 f3 w4 g5 = 1) (h2 : gsY_X11_isCoat_1 NF p2 v2 f3 w4 g5 = 1) (h3 : gsY_X11_misfitOf_1 NF p1 p2 v2 f3 w4 g5 = (r12, v14, f15, w16, g17)) : gsY_X11_misfit_1 NF p1 p2 v f w g = (r12, v14, f15, w16, g17) := by
  simp only [gsY_X11_misfit_1, h0, h1, h2, h3, ite11, ite01, if_true, if_false]
theorem gsY_X11_misfit_1_q1 {NF : Nat} {p1 : Int32} {p2 : Int32} {v : Nat → Int32} {f : Nat → Nat → Int32} {w : Int64} {g : Nat → Int64} {v2 : Nat → Int32} {f3 : Nat → Nat → Int32} {w4 : Int64} {g5 : Nat → Int64} (h0 : gsY_X11_fill_1 NF v f w g = (v2, f3, w4, g5)) (h1 : gsY_X11_isMan_1 NF p1 v2 f3 w4 g5 = 1) (h2 : gsY_X11_isCoat_1 NF p2 v2 f3 w4 g5 = 0) : gsY_X11_misfit_1 NF p1 p2 v f w g = ((-1), v2, f3, w4, g5) := by
  simp only [gsY_X11_misfit_1, h0, h1, h2, ite11, ite01, if_true, if_false]
theorem gsY_X11_misfit_1_q2 {NF : Nat} {p1 : Int32} {p2 : Int32} {v : Nat → Int32} {f : Nat → Nat → Int32} {w : Int64} {g : Nat → Int64} {v2 : Nat → Int32} {f3 : Nat → Nat → Int32} {w4 : Int64} {g5 : Nat → Int64} (h0 : gsY_X11_fill_1 NF v f w g = (v2, f3, w4, g5)) (h1 : gsY_X11_isMan_1 NF p1 v2 f3 w4 g5 = 0) : gsY_X11_misfit_1 NF p1 p2 v f w g = ((-1), v2, f3, w4, g5) := by
  simp only [gsY_X11_misfit_1, h0, h1, ite11, ite01, if_true, if_false]
def gsY_X11_act_1_L2 (NF : Nat) (v : Nat → Int32) : Nat → (Int32) → (Nat → Int32) → (Nat → Nat → Int32) → (Int64) → (Nat → Int64) → (Nat → Int32) × (Nat → Nat → Int32) × (Int64) × (Nat → Int64)
  | 0, _, _, _, _, _ => ((fun _ => 0), (fun _ _ => 0), 0, (fun _ => 0))
  | n2 + 1, l1_2, v2, f2, w2, g2 =>
    if 39 ≤ l1_2 then
      let t4 : Int32 := (v 35) + 1
      match gsY_X11_fill_1 NF (upd (upd v2 35 t4) 36 0) f2 w2 g2 with
      | (v7, f8, w9, g10) =>
        (v7, f8, w9, g10)
    else
      let t11 : Int32 := 39 * (v 35)
      let t13 : Int32 := t11 + l1_2
      let t16 : Int32 := f2 23 (l1_2).toNatClampNeg
      let f17 : Nat → Nat → Int32 := upd2 f2 25 (upd (f2 25) t13.toNatClampNeg t16)
      let t18 : Int32 := l1_2 + 1
      gsY_X11_act_1_L2 NF v n2 t18 v2 f17 w2 g2
def gsY_X11_act_1_L24 (NF : Nat) (t22 : Int32) : Nat → (Int32) → (Nat → Int32) → (Nat → Nat → Int32) → (Int64) → (Nat → Int64) → (Nat → Int32) × (Nat → Nat → Int32) × (Int64) × (Nat → Int64)
  | 0, _, _, _, _, _ => ((fun _ => 0), (fun _ _ => 0), 0, (fun _ => 0))
  | n24 + 1, l1_24, v24, f24, w24, g24 =>
    if 39 ≤ l1_24 then
      let t26 : Int32 := t22 + 1
      match gsY_X11_fill_1 NF (upd (upd v24 35 t26) 36 0) f24 w24 g24 with
      | (v29, f30, w31, g32) =>
        (v29, f30, w31, g32)
    else
      let t33 : Int32 := 39 * t22
      let t35 : Int32 := t33 + l1_24
      let t38 : Int32 := f24 23 (l1_24).toNatClampNeg
      let f39 : Nat → Nat → Int32 := upd2 f24 25 (upd (f24 25) t35.toNatClampNeg t38)
      let t40 : Int32 := l1_24 + 1
      gsY_X11_act_1_L24 NF t22 n24 t40 v24 f39 w24 g24
def gsY_X11_act_1_L20 (NF : Nat) (v : Nat → Int32) : Nat → (Int32) → (Nat → Int32) → (Nat → Nat → Int32) → (Int64) → (Nat → Int64) → (Nat → Int32) × (Nat → Nat → Int32) × (Int64) × (Nat → Int64)
  | 0, _, _, _, _, _ => ((fun _ => 0), (fun _ _ => 0), 0, (fun _ => 0))
  | n20 + 1, l1_20, v20, f20, w20, g20 =>
    if 1521 ≤ l1_20 then
      let t22 : Int32 := (v 35) - 1
      gsY_X11_act_1_L24 NF t22 (4294967296 + NF) 0 (upd v20 35 t22) f20 w20 g20
    else
      let t42 : Int32 := 39 + l1_20
      let t44 : Int32 := f20 25 (t42).toNatClampNeg
      let f45 : Nat → Nat → Int32 := upd2 f20 25 (upd (f20 25) l1_20.toNatClampNeg t44)
      let t46 : Int32 := l1_20 + 1
      gsY_X11_act_1_L20 NF v n20 t46 v20 f45 w20 g20
def gsY_X11_act_1 (NF : Nat) (v : Nat → Int32) (f : Nat → Nat → Int32) (w : Int64) (g : Nat → Int64) : (Nat → Int32) × (Nat → Nat → Int32) × (Int64) × (Nat → Int64) :=
  if (v 35) = 40 then
    gsY_X11_act_1_L20 NF v (4294967296 + NF) 0 v f w g
  else
    gsY_X11_act_1_L2 NF v (4294967296 + NF) 0 v f w g
theorem gsY_X11_act_1_q2 {NF : Nat} {v : Nat → Int32} {f : Nat → Nat → Int32} {w : Int64} {g : Nat → Int64} (h0 : ¬ ((v 35) = 40)) : gsY_X11_act_1 NF v f w g = gsY_X11_act_1_L2 NF v (4294967296 + NF) 0 v f w g := by
  simp only [gsY_X11_act_1, if_neg h0]
theorem gsY_X11_act_1_q7 {NF : Nat} {v : Nat → Int32} {f : Nat → Nat → Int32} {w : Int64} {g : Nat → Int64} (h0 : ((v 35) = 40)) : gsY_X11_act_1 NF v f w g = gsY_X11_act_1_L20 NF v (4294967296 + NF) 0 v f w g := by
  simp only [gsY_X11_act_1, if_pos h0]
theorem gsY_X11_act_1_q0 {NF : Nat} {v : Nat → Int32} {n2 : Nat} {l1_2 : Int32} {v2 : Nat → Int32} {f2 : Nat → Nat → Int32} {w2 : Int64} {g2 : Nat → Int64} {t4 : Int32} {v7 : Nat → Int32} {f8 : Nat → Nat → Int32} {w9 : Int64} {g10 : Nat → Int64} (h0 : (39 ≤ l1_2)) (h1 : t4 = (v 35) + 1) (h2 : gsY_X11_fill_1 NF (upd (upd v2 35 t4) 36 0) f2 w2 g2 = (v7, f8, w9, g10)) : gsY_X11_act_1_L2 NF v (n2 + 1) l1_2 v2 f2 w2 g2 = (v7, f8, w9, g10) := by
  subst h1
  simp only [gsY_X11_act_1_L2, if_pos h0, h2]
theorem gsY_X11_act_1_q1 {NF : Nat} {v : Nat → Int32} {n2 : Nat} {l1_2 : Int32} {v2 : Nat → Int32} {f2 : Nat → Nat → Int32} {w2 : Int64} {g2 : Nat → Int64} {t11 : Int32} {t13 : Int32} {t16 : Int32} {f17 : Nat → Nat → Int32} {t18 : Int32} (h0 : ¬ (39 ≤ l1_2)) (h1 : t11 = 39 * (v 35)) (h2 : t13 = t11 + l1_2) (h3 : t16 = f2 23 (l1_2).toNatClampNeg) (h4 : f17 = upd2 f2 25 (upd (f2 25) t13.toNatClampNeg t16)) (h5 : t18 = l1_2 + 1) : gsY_X11_act_1_L2 NF v (n2 + 1) l1_2 v2 f2 w2 g2 = gsY_X11_act_1_L2 NF v n2 t18 v2 f17 w2 g2 := by
  subst h1 h2 h3 h4 h5
  simp only [gsY_X11_act_1_L2, if_neg h0]
theorem gsY_X11_act_1_q5 {NF : Nat} {v : Nat → Int32} {n20 : Nat} {l1_20 : Int32} {v20 : Nat → Int32} {f20 : Nat → Nat → Int32} {w20 : Int64} {g20 : Nat → Int64} {t22 : Int32} (h0 : (1521 ≤ l1_20)) (h1 : t22 = (v 35) - 1) : gsY_X11_act_1_L20 NF v (n20 + 1) l1_20 v20 f20 w20 g20 = gsY_X11_act_1_L24 NF t22 (4294967296 + NF) 0 (upd v20 35 t22) f20 w20 g20 := by
  subst h1
  simp only [gsY_X11_act_1_L20, if_pos h0]
theorem gsY_X11_act_1_q6 {NF : Nat} {v : Nat → Int32} {n20 : Nat} {l1_20 : Int32} {v20 : Nat → Int32} {f20 : Nat → Nat → Int32} {w20 : Int64} {g20 : Nat → Int64} {t42 : Int32} {t44 : Int32} {f45 : Nat → Nat → Int32} {t46 : Int32} (h0 : ¬ (1521 ≤ l1_20)) (h1 : t42 = 39 + l1_20) (h2 : t44 = f20 25 (t42).toNatClampNeg) (h3 : f45 = upd2 f20 25 (upd (f20 25) l1_20.toNatClampNeg t44)) (h4 : t46 = l1_20 + 1) : gsY_X11_act_1_L20 NF v (n20 + 1) l1_20 v20 f20 w20 g20 = gsY_X11_act_1_L20 NF v n20 t46 v20 f45 w20 g20 := by
  subst h1 h2 h3 h4
  simp only [gsY_X11_act_1_L20, if_neg h0]
theorem gsY_X11_act_1_q3 {NF : Nat} {t22 : Int32} {n24 : Nat} {l1_24 : Int32} {v24 : Nat → Int32} {f24 : Nat → Nat → Int32} {w24 : Int64} {g24 : Nat → Int64} {t26 : Int32} {v29 : Nat → Int32} {f30 : Nat → Nat → Int32} {w31 : Int64} {g32 : Nat → Int64} (h0 : (39 ≤ l1_24)) (h1 : t26 = t22 + 1) (h2 : gsY_X11_fill_1 NF (upd (upd v24 35 t26) 36 0) f24 w24 g24 = (v29, f30, w31, g32)) : gsY_X11_act_1_L24 NF t22 (n24 + 1) l1_24 v24 f24 w24 g24 = (v29, f30, w31, g32) := by
  subst h1
  simp only [gsY_X11_act_1_L24, if_pos h0, h2]
theorem gsY_X11_act_1_q4 {NF : Nat} {t22 : Int32} {n24 : Nat} {l1_24 : Int32} {v24 : Nat → Int32} {f24 : Nat → Nat → Int32} {w24 : Int64} {g24 : Nat → Int64} {t33 : Int32} {t35 : Int32} {t38 : Int32} {f39 : Nat → Nat → Int32} {t40 : Int32} (h0 : ¬ (39 ≤ l1_24)) (h1 : t33 = 39 * t22) (h2 : t35 = t33 + l1_24) (h3 : t38 = f24 23 (l1_24).toNatClampNeg) (h4 : f39 = upd2 f24 25 (upd (f24 25) t35.toNatClampNeg t38)) (h5 : t40 = l1_24 + 1) : gsY_X11_act_1_L24 NF t22 (n24 + 1) l1_24 v24 f24 w24 g24 = gsY_X11_act_1_L24 NF t22 n24 t40 v24 f39 w24 g24 := by
  subst h1 h2 h3 h4 h5
  simp only [gsY_X11_act_1_L24, if_neg h0]
def gsY_X11_drawRain_1 (NF : Nat) (v : Nat → Int32) (f : Nat → Nat → Int32) (w : Int64) (g : Nat → Int64) : Int32 × (Nat → Int32) × (Nat → Nat → Int32) × (Int64) × (Nat → Int64) :=
  let t1 : Int32 := f 24 (38 : Int32).toNatClampNeg
  let t2 : Int32 := t1 * 137
  let t3 : Int32 := t2 + 71
  let t4 : Int32 := t3 - t3 / 1000 * 1000
  let f5 : Nat → Nat → Int32 := upd2 f 24 (upd (f 24) (38 : Int32).toNatClampNeg t4)
  let t6 : Int32 := f5 24 (38 : Int32).toNatClampNeg
  let t7 : Int32 := t6 - t6 / 100 * 100
  if (v 29) ≤ t7 then
    (0, v, f5, w, g)
  else
    (1, v, f5, w, g)
theorem gsY_X11_drawRain_1_q0 {NF : Nat} {v : Nat → Int32} {f : Nat → Nat → Int32} {w : Int64} {g : Nat → Int64} {t1 : Int32} {t2 : Int32} {t3 : Int32} {t4 : Int32} {f5 : Nat → Nat → Int32} {t6 : Int32} {t7 : Int32} (h0 : t1 = f 24 (38 : Int32).toNatClampNeg) (h1 : t2 = t1 * 137) (h2 : t3 = t2 + 71) (h3 : t4 = t3 - t3 / 1000 * 1000) (h4 : f5 = upd2 f 24 (upd (f 24) (38 : Int32).toNatClampNeg t4)) (h5 : t6 = f5 24 (38 : Int32).toNatClampNeg) (h6 : t7 = t6 - t6 / 100 * 100) (h7 : ((v 29) ≤ t7)) : gsY_X11_drawRain_1 NF v f w g = (0, v, f5, w, g) := by
  subst h0 h1 h2 h3 h4 h5 h6
  simp only [gsY_X11_drawRain_1, if_pos h7]
theorem gsY_X11_drawRain_1_q1 {NF : Nat} {v : Nat → Int32} {f : Nat → Nat → Int32} {w : Int64} {g : Nat → Int64} {t1 : Int32} {t2 : Int32} {t3 : Int32} {t4 : Int32} {f5 : Nat → Nat → Int32} {t6 : Int32} {t7 : Int32} (h0 : t1 = f 24 (38 : Int32).toNatClampNeg) (h1 : t2 = t1 * 137) (h2 : t3 = t2 + 71) (h3 : t4 = t3 - t3 / 1000 * 1000) (h4 : f5 = upd2 f 24 (upd (f 24) (38 : Int32).toNatClampNeg t4)) (h5 : t6 = f5 24 (38 : Int32).toNatClampNeg) (h6 : t7 = t6 - t6 / 100 * 100) (h7 : ¬ ((v 29) ≤ t7)) : gsY_X11_drawRain_1 NF v f w g = (1, v, f5, w, g) := by
  subst h0 h1 h2 h3 h4 h5 h6
  simp only [gsY_X11_drawRain_1, if_neg h7]
def gsY_X11_wearers_1_L1 (NF : Nat) (v : Nat → Int32) (f : Nat → Nat → Int32) (w : Int64) (g : Nat → Int64) : Nat → (Int32) → (Int32) → Int32
  | 0, _, _ => 0
  | n1 + 1, l1_1, l2_1 =>
    if (v 24) ≤ l2_1 then
      l1_1
    else
      let t7 : Int32 := 6 + l2_1
      let t8 : Int32 := f 24 (t7).toNatClampNeg
      if t8 < 0 then
        let r11 : Int32 := gsY_X11_truth_1 NF 0 v f w g
        let t13 : Int32 := r11 <<< (l2_1 &&& 31)
        let t14 : Int32 := l1_1 ||| t13
        let t15 : Int32 := l2_1 + 1
        gsY_X11_wearers_1_L1 NF v f w g n1 t14 t15
      else
        let r19 : Int32 := gsY_X11_truth_1 NF 1 v f w g
        let t21 : Int32 := r19 <<< (l2_1 &&& 31)
        let t22 : Int32 := l1_1 ||| t21
        let t23 : Int32 := l2_1 + 1
        gsY_X11_wearers_1_L1 NF v f w g n1 t22 t23
def gsY_X11_wearers_1 (NF : Nat) (v : Nat → Int32) (f : Nat → Nat → Int32) (w : Int64) (g : Nat → Int64) : Int32 :=
  gsY_X11_wearers_1_L1 NF v f w g (4294967296 + NF) 0 0
theorem gsY_X11_wearers_1_q3 {NF : Nat} {v : Nat → Int32} {f : Nat → Nat → Int32} {w : Int64} {g : Nat → Int64}  : gsY_X11_wearers_1 NF v f w g = gsY_X11_wearers_1_L1 NF v f w g (4294967296 + NF) 0 0 := by
  simp only [gsY_X11_wearers_1]
theorem gsY_X11_wearers_1_q0 {NF : Nat} {v : Nat → Int32} {f : Nat → Nat → Int32} {w : Int64} {g : Nat → Int64} {n1 : Nat} {l1_1 : Int32} {l2_1 : Int32} (h0 : ((v 24) ≤ l2_1)) : gsY_X11_wearers_1_L1 NF v f w g (n1 + 1) l1_1 l2_1 = l1_1 := by
  simp only [gsY_X11_wearers_1_L1, if_pos h0]
theorem gsY_X11_wearers_1_q1 {NF : Nat} {v : Nat → Int32} {f : Nat → Nat → Int32} {w : Int64} {g : Nat → Int64} {n1 : Nat} {l1_1 : Int32} {l2_1 : Int32} {t7 : Int32} {t8 : Int32} {r11 : Int32} {t13 : Int32} {t14 : Int32} {t15 : Int32} (h0 : ¬ ((v 24) ≤ l2_1)) (h1 : t7 = 6 + l2_1) (h2 : t8 = f 24 (t7).toNatClampNeg) (h3 : (t8 < 0)) (h4 : r11 = gsY_X11_truth_1 NF 0 v f w g) (h5 : t13 = r11 <<< (l2_1 &&& 31)) (h6 : t14 = l1_1 ||| t13) (h7 : t15 = l2_1 + 1) : gsY_X11_wearers_1_L1 NF v f w g (n1 + 1) l1_1 l2_1 = gsY_X11_wearers_1_L1 NF v f w g n1 t14 t15 := by
  subst h1 h2 h4 h5 h6 h7
  simp only [gsY_X11_wearers_1_L1, if_neg h0, if_pos h3]
theorem gsY_X11_wearers_1_q2 {NF : Nat} {v : Nat → Int32} {f : Nat → Nat → Int32} {w : Int64} {g : Nat → Int64} {n1 : Nat} {l1_1 : Int32} {l2_1 : Int32} {t7 : Int32} {t8 : Int32} {r19 : Int32} {t21 : Int32} {t22 : Int32} {t23 : Int32} (h0 : ¬ ((v 24) ≤ l2_1)) (h1 : t7 = 6 + l2_1) (h2 : t8 = f 24 (t7).toNatClampNeg) (h3 : ¬ (t8 < 0)) (h4 : r19 = gsY_X11_truth_1 NF 1 v f w g) (h5 : t21 = r19 <<< (l2_1 &&& 31)) (h6 : t22 = l1_1 ||| t21) (h7 : t23 = l2_1 + 1) : gsY_X11_wearers_1_L1 NF v f w g (n1 + 1) l1_1 l2_1 = gsY_X11_wearers_1_L1 NF v f w g n1 t22 t23 := by
  subst h1 h2 h4 h5 h6 h7
  simp only [gsY_X11_wearers_1_L1, if_neg h0, if_neg h3]
def gsY_X11_fits_1 (NF : Nat) (p1 : Int32) (p2 : Int32) (v : Nat → Int32) (f : Nat → Nat → Int32) (w : Int64) (g : Nat → Int64) : Int32 × (Nat → Int32) × (Nat → Nat → Int32) × (Int64) × (Nat → Int64) :=
  if p2 < 0 then
    (0, v, f, w, g)
  else
    match gsY_X11_misfitOf_1 NF p1 p2 v f w g with
    | (r2, v4, f5, w6, g7) =>
      if (v4 26) < r2 then
        (0, v4, f5, w6, g7)
      else
        (1, v4, f5, w6, g7)
theorem gsY_X11_fits_1_q0 {NF : Nat} {p1 : Int32} {p2 : Int32} {v : Nat → Int32} {f : Nat → Nat → Int32} {w : Int64} {g : Nat → Int64} (h0 : (p2 < 0)) : gsY_X11_fits_1 NF p1 p2 v f w g = (0, v, f, w, g) := by
  simp only [gsY_X11_fits_1, if_pos h0]
theorem gsY_X11_fits_1_q1 {NF : Nat} {p1 : Int32} {p2 : Int32} {v : Nat → Int32} {f : Nat → Nat → Int32} {w : Int64} {g : Nat → Int64} {r2 : Int32} {v4 : Nat → Int32} {f5 : Nat → Nat → Int32} {w6 : Int64} {g7 : Nat → Int64} (h0 : ¬ (p2 < 0)) (h1 : gsY_X11_misfitOf_1 NF p1 p2 v f w g = (r2, v4, f5, w6, g7)) (h2 : ((v4 26) < r2)) : gsY_X11_fits_1 NF p1 p2 v f w g = (0, v4, f5, w6, g7) := by
  simp only [gsY_X11_fits_1, if_neg h0, h1, if_pos h2]
theorem gsY_X11_fits_1_q2 {NF : Nat} {p1 : Int32} {p2 : Int32} {v : Nat → Int32} {f : Nat → Nat → Int32} {w : Int64} {g : Nat → Int64} {r2 : Int32} {v4 : Nat → Int32} {f5 : Nat → Nat → Int32} {w6 : Int64} {g7 : Nat → Int64} (h0 : ¬ (p2 < 0)) (h1 : gsY_X11_misfitOf_1 NF p1 p2 v f w g = (r2, v4, f5, w6, g7)) (h2 : ¬ ((v4 26) < r2)) : gsY_X11_fits_1 NF p1 p2 v f w g = (1, v4, f5, w6, g7) := by
  simp only [gsY_X11_fits_1, if_neg h0, h1, if_neg h2]
def gsY_X11_fitsOwn_1 (NF : Nat) (p1 : Int32) (v : Nat → Int32) (f : Nat → Nat → Int32) (w : Int64) (g : Nat → Int64) : Int32 × (Nat → Int32) × (Nat → Nat → Int32) × (Int64) × (Nat → Int64) :=
  let t1 : Int32 := 6 + p1
  let t3 : Int32 := f 24 (t1).toNatClampNeg
  match gsY_X11_fits_1 NF p1 t3 v f w g with
  | (r4, v6, f7, w8, g9) =>
    if r4 = 1 then
      (1, v6, f7, w8, g9)
    else
      (0, v6, f7, w8, g9)
theorem gsY_X11_fitsOwn_1_q0 {NF : Nat} {p1 : Int32} {v : Nat → Int32} {f : Nat → Nat → Int32} {w : Int64} {g : Nat → Int64} {t1 : Int32} {t3 : Int32} {v6 : Nat → Int32} {f7 : Nat → Nat → Int32} {w8 : Int64} {g9 : Nat → Int64} (h0 : t1 = 6 + p1) (h1 : t3 = f 24 (t1).toNatClampNeg) (h2 : gsY_X11_fits_1 NF p1 t3 v f w g = (1, v6, f7, w8, g9)) : gsY_X11_fitsOwn_1 NF p1 v f w g = (1, v6, f7, w8, g9) := by
  subst h0 h1
  simp only [gsY_X11_fitsOwn_1, h2, ite11, ite01, if_true, if_false]
theorem gsY_X11_fitsOwn_1_q1 {NF : Nat} {p1 : Int32} {v : Nat → Int32} {f : Nat → Nat → Int32} {w : Int64} {g : Nat → Int64} {t1 : Int32} {t3 : Int32} {v6 : Nat → Int32} {f7 : Nat → Nat → Int32} {w8 : Int64} {g9 : Nat → Int64} (h0 : t1 = 6 + p1) (h1 : t3 = f 24 (t1).toNatClampNeg) (h2 : gsY_X11_fits_1 NF p1 t3 v f w g = (0, v6, f7, w8, g9)) : gsY_X11_fitsOwn_1 NF p1 v f w g = (0, v6, f7, w8, g9) := by
  subst h0 h1
  simp only [gsY_X11_fitsOwn_1, h2, ite11, ite01, if_true, if_false]
