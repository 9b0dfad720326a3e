def gsX_X5_forgetActs_1 (NF : Nat) (v : Nat → Int32) (f : Nat → Nat → Int32) : (Nat → Int32) × (Nat → Nat → Int32) :=
  match gsX_X1_saveTo_1 NF 0 (upd (upd (upd v 21 0) 22 0) 23 0) f with
  | (v2, f3) =>
    (v2, f3)
theorem gsX_X5_forgetActs_1_q0 {NF : Nat} {v : Nat → Int32} {f : Nat → Nat → Int32} {v2 : Nat → Int32} {f3 : Nat → Nat → Int32} (h0 : gsX_X1_saveTo_1 NF 0 (upd (upd (upd v 21 0) 22 0) 23 0) f = (v2, f3)) : gsX_X5_forgetActs_1 NF v f = (v2, f3) := by
  simp only [gsX_X5_forgetActs_1, h0]
def gsX_X5_forgetAll_1 (NF : Nat) (v : Nat → Int32) (f : Nat → Nat → Int32) : (Nat → Int32) × (Nat → Nat → Int32) :=
  match gsX_X5_forgetActs_1 NF (upd v 20 0) f with
  | (v2, f3) =>
    (v2, f3)
theorem gsX_X5_forgetAll_1_q0 {NF : Nat} {v : Nat → Int32} {f : Nat → Nat → Int32} {v2 : Nat → Int32} {f3 : Nat → Nat → Int32} (h0 : gsX_X5_forgetActs_1 NF (upd v 20 0) f = (v2, f3)) : gsX_X5_forgetAll_1 NF v f = (v2, f3) := by
  simp only [gsX_X5_forgetAll_1, h0]
def gsX_X0_clear_1 (NF : Nat) (v : Nat → Int32) (f : Nat → Nat → Int32) : (Nat → Int32) × (Nat → Nat → Int32) :=
  ((upd v 38 0), f)
theorem gsX_X0_clear_1_q0 {NF : Nat} {v : Nat → Int32} {f : Nat → Nat → Int32}  : gsX_X0_clear_1 NF v f = ((upd v 38 0), f) := by
  simp only [gsX_X0_clear_1]
def gsX_J7_fill_53178_1_L1 (NF : Nat) (p1 : Int32) : Nat → (Int32) → (Nat → Int32) → (Nat → Nat → Int32) → (Nat → Int32) × (Nat → Nat → Int32)
  | 0, _, _, _ => ((fun _ => 0), (fun _ _ => 0))
  | n1 + 1, l2_1, v1, f1 =>
    if 21 ≤ l2_1 then
      (v1, f1)
    else
      let f3 : Nat → Nat → Int32 := upd2 f1 27 (upd (f1 27) l2_1.toNatClampNeg p1)
      let t4 : Int32 := l2_1 + 1
      gsX_J7_fill_53178_1_L1 NF p1 n1 t4 v1 f3
def gsX_J7_fill_53178_1 (NF : Nat) (p1 : Int32) (v : Nat → Int32) (f : Nat → Nat → Int32) : (Nat → Int32) × (Nat → Nat → Int32) :=
  gsX_J7_fill_53178_1_L1 NF p1 (4294967296 + NF) 0 v f
theorem gsX_J7_fill_53178_1_q2 {NF : Nat} {p1 : Int32} {v : Nat → Int32} {f : Nat → Nat → Int32}  : gsX_J7_fill_53178_1 NF p1 v f = gsX_J7_fill_53178_1_L1 NF p1 (4294967296 + NF) 0 v f := by
  simp only [gsX_J7_fill_53178_1]
theorem gsX_J7_fill_53178_1_q0 {NF : Nat} {p1 : Int32} {n1 : Nat} {l2_1 : Int32} {v1 : Nat → Int32} {f1 : Nat → Nat → Int32} (h0 : (21 ≤ l2_1)) : gsX_J7_fill_53178_1_L1 NF p1 (n1 + 1) l2_1 v1 f1 = (v1, f1) := by
  simp only [gsX_J7_fill_53178_1_L1, if_pos h0]
theorem gsX_J7_fill_53178_1_q1 {NF : Nat} {p1 : Int32} {n1 : Nat} {l2_1 : Int32} {v1 : Nat → Int32} {f1 : Nat → Nat → Int32} {f3 : Nat → Nat → Int32} {t4 : Int32} (h0 : ¬ (21 ≤ l2_1)) (h1 : f3 = upd2 f1 27 (upd (f1 27) l2_1.toNatClampNeg p1)) (h2 : t4 = l2_1 + 1) : gsX_J7_fill_53178_1_L1 NF p1 (n1 + 1) l2_1 v1 f1 = gsX_J7_fill_53178_1_L1 NF p1 n1 t4 v1 f3 := by
  subst h1 h2
  simp only [gsX_J7_fill_53178_1_L1, if_neg h0]
def gsX_X8_clear_1 (NF : Nat) (v : Nat → Int32) (f : Nat → Nat → Int32) : (Nat → Int32) × (Nat → Nat → Int32) :=
  match gsX_J7_fill_53178_1 NF (-1) (upd v 41 0) f with
  | (v2, f3) =>
    (v2, f3)
theorem gsX_X8_clear_1_q0 {NF : Nat} {v : Nat → Int32} {f : Nat → Nat → Int32} {v2 : Nat → Int32} {f3 : Nat → Nat → Int32} (h0 : gsX_J7_fill_53178_1 NF (-1) (upd v 41 0) f = (v2, f3)) : gsX_X8_clear_1 NF v f = (v2, f3) := by
  simp only [gsX_X8_clear_1, h0]
def gsX_X10_regiment_1 (NF : Nat) (v : Nat → Int32) (f : Nat → Nat → Int32) : Int32 × (Nat → Int32) × (Nat → Nat → Int32) :=
  match gsX_X6_read_1 NF v f with
  | (r1, v3, f4) =>
    if r1 = 1 then
      match gsX_X7_copy_1 NF (upd v3 1 0) f4 with
      | (v7, f8) =>
        match gsX_X1_muster_1 NF v7 f8 with
        | (v10, f11) =>
          match gsX_X5_forgetAll_1 NF v10 f11 with
          | (v13, f14) =>
            match gsX_X0_clear_1 NF v13 f14 with
            | (v16, f17) =>
              match gsX_X8_clear_1 NF v16 f17 with
              | (v19, f20) =>
                ((v7 31), v19, f20)
    else
      ((-1), (upd v3 1 0), f4)
theorem gsX_X10_regiment_1_q0 {NF : Nat} {v : Nat → Int32} {f : Nat → Nat → Int32} {v3 : Nat → Int32} {f4 : Nat → Nat → Int32} {v7 : Nat → Int32} {f8 : Nat → Nat → Int32} {v10 : Nat → Int32} {f11 : Nat → Nat → Int32} {v13 : Nat → Int32} {f14 : Nat → Nat → Int32} {v16 : Nat → Int32} {f17 : Nat → Nat → Int32} {v19 : Nat → Int32} {f20 : Nat → Nat → Int32} (h0 : gsX_X6_read_1 NF v f = (1, v3, f4)) (h2 : gsX_X7_copy_1 NF (upd v3 1 0) f4 = (v7, f8)) (h3 : gsX_X1_muster_1 NF v7 f8 = (v10, f11)) (h4 : gsX_X5_forgetAll_1 NF v10 f11 = (v13, f14)) (h5 : gsX_X0_clear_1 NF v13 f14 = (v16, f17)) (h6 : gsX_X8_clear_1 NF v16 f17 = (v19, f20)) : gsX_X10_regiment_1 NF v f = ((v7 31), v19, f20) := by
  simp only [gsX_X10_regiment_1, h0, h2, h3, h4, h5, h6, ite11, ite01, if_true, if_false]
theorem gsX_X10_regiment_1_q1 {NF : Nat} {v : Nat → Int32} {f : Nat → Nat → Int32} {v3 : Nat → Int32} {f4 : Nat → Nat → Int32} (h0 : gsX_X6_read_1 NF v f = (0, v3, f4)) : gsX_X10_regiment_1 NF v f = ((-1), (upd v3 1 0), f4) := by
  simp only [gsX_X10_regiment_1, h0, ite11, ite01, if_true, if_false]
def gsX_X8_tell_1 (NF : Nat) (p1 : Int32) (p2 : Int32) (p3 : Int32) (v : Nat → Int32) (f : Nat → Nat → Int32) : Int32 × (Nat → Int32) × (Nat → Nat → Int32) :=
  if p1 < 0 then
    ((-1), v, f)
  else
    if 20 < p1 then
      ((-1), v, f)
    else
      if (v 41) < 30 then
        let f4 : Nat → Nat → Int32 := upd2 f 23 (upd (f 23) (v 41).toNatClampNeg p1)
        let f5 : Nat → Nat → Int32 := upd2 f4 24 (upd (f4 24) (v 41).toNatClampNeg (vp_nar .boolean p2))
        let f6 : Nat → Nat → Int32 := upd2 f5 25 (upd (f5 25) (v 41).toNatClampNeg p3)
        let f7 : Nat → Nat → Int32 := upd2 f6 26 (upd (f6 26) (v 41).toNatClampNeg (-1))
        let t8 : Int32 := (v 41) + 1
        let t10 : Int32 := t8 - 1
        (t10, (upd v 41 t8), f7)
      else
        ((-1), v, f)
theorem gsX_X8_tell_1_q0 {NF : Nat} {p1 : Int32} {p2 : Int32} {p3 : Int32} {v : Nat → Int32} {f : Nat → Nat → Int32} (h0 : (p1 < 0)) : gsX_X8_tell_1 NF p1 p2 p3 v f = ((-1), v, f) := by
  simp only [gsX_X8_tell_1, if_pos h0]
theorem gsX_X8_tell_1_q1 {NF : Nat} {p1 : Int32} {p2 : Int32} {p3 : Int32} {v : Nat → Int32} {f : Nat → Nat → Int32} (h0 : ¬ (p1 < 0)) (h1 : (20 < p1)) : gsX_X8_tell_1 NF p1 p2 p3 v f = ((-1), v, f) := by
  simp only [gsX_X8_tell_1, if_neg h0, if_pos h1]
theorem gsX_X8_tell_1_q2 {NF : Nat} {p1 : Int32} {p2 : Int32} {p3 : Int32} {v : Nat → Int32} {f : Nat → Nat → Int32} {f4 : Nat → Nat → Int32} {f5 : Nat → Nat → Int32} {f6 : Nat → Nat → Int32} {f7 : Nat → Nat → Int32} {t8 : Int32} {t10 : Int32} (h0 : ¬ (p1 < 0)) (h1 : ¬ (20 < p1)) (h2 : ((v 41) < 30)) (h3 : f4 = upd2 f 23 (upd (f 23) (v 41).toNatClampNeg p1)) (h4 : f5 = upd2 f4 24 (upd (f4 24) (v 41).toNatClampNeg (vp_nar .boolean p2))) (h5 : f6 = upd2 f5 25 (upd (f5 25) (v 41).toNatClampNeg p3)) (h6 : f7 = upd2 f6 26 (upd (f6 26) (v 41).toNatClampNeg (-1))) (h7 : t8 = (v 41) + 1) (h8 : t10 = t8 - 1) : gsX_X8_tell_1 NF p1 p2 p3 v f = (t10, (upd v 41 t8), f7) := by
  subst h3 h4 h5 h6 h7 h8
  simp only [gsX_X8_tell_1, if_neg h0, if_neg h1, if_pos h2]
theorem gsX_X8_tell_1_q3 {NF : Nat} {p1 : Int32} {p2 : Int32} {p3 : Int32} {v : Nat → Int32} {f : Nat → Nat → Int32} (h0 : ¬ (p1 < 0)) (h1 : ¬ (20 < p1)) (h2 : ¬ ((v 41) < 30)) : gsX_X8_tell_1 NF p1 p2 p3 v f = ((-1), v, f) := by
  simp only [gsX_X8_tell_1, if_neg h0, if_neg h1, if_neg h2]
def gsX_X10_seen_1 (NF : Nat) (p1 : Int32) (p2 : Int32) (v : Nat → Int32) (f : Nat → Nat → Int32) : Int32 × (Nat → Int32) × (Nat → Nat → Int32) :=
  if (v 31) = 0 then
    ((-1), v, f)
  else
    if (v 32) = 0 then
      ((-1), v, f)
    else
      match gsX_X8_tell_1 NF p1 p2 (v 0) v f with
      | (r3, v5, f6) =>
        (r3, v5, f6)
theorem gsX_X10_seen_1_q0 {NF : Nat} {p1 : Int32} {p2 : Int32} {v : Nat → Int32} {f : Nat → Nat → Int32} (h0 : ((v 31) = 0)) : gsX_X10_seen_1 NF p1 p2 v f = ((-1), v, f) := by
  simp only [gsX_X10_seen_1, if_pos h0]
theorem gsX_X10_seen_1_q1 {NF : Nat} {p1 : Int32} {p2 : Int32} {v : Nat → Int32} {f : Nat → Nat → Int32} {r3 : Int32} {v5 : Nat → Int32} {f6 : Nat → Nat → Int32} (h0 : ¬ ((v 31) = 0)) (h1 : ¬ ((v 32) = 0)) (h2 : gsX_X8_tell_1 NF p1 p2 (v 0) v f = (r3, v5, f6)) : gsX_X10_seen_1 NF p1 p2 v f = (r3, v5, f6) := by
  simp only [gsX_X10_seen_1, if_neg h0, if_neg h1, h2]
theorem gsX_X10_seen_1_q2 {NF : Nat} {p1 : Int32} {p2 : Int32} {v : Nat → Int32} {f : Nat → Nat → Int32} (h0 : ¬ ((v 31) = 0)) (h1 : ((v 32) = 0)) : gsX_X10_seen_1 NF p1 p2 v f = ((-1), v, f) := by
  simp only [gsX_X10_seen_1, if_neg h0, if_pos h1]
def gsX_X8_takeBack_1 (NF : Nat) (p1 : Int32) (p2 : Int32) (v : Nat → Int32) (f : Nat → Nat → Int32) : Int32 × (Nat → Int32) × (Nat → Nat → Int32) :=
  if p1 < 0 then
    (0, v, f)
  else
    if (v 41) ≤ p1 then
      (0, v, f)
    else
      if 30 ≤ p1 then
        (0, v, f)
      else
        let t8 : Int32 := f 26 (p1).toNatClampNeg
        if t8 = (-1) then
          let f10 : Nat → Nat → Int32 := upd2 f 26 (upd (f 26) p1.toNatClampNeg p2)
          (1, v, f10)
        else
          (0, v, f)
theorem gsX_X8_takeBack_1_q0 {NF : Nat} {p1 : Int32} {p2 : Int32} {v : Nat → Int32} {f : Nat → Nat → Int32} (h0 : (p1 < 0)) : gsX_X8_takeBack_1 NF p1 p2 v f = (0, v, f) := by
  simp only [gsX_X8_takeBack_1, if_pos h0]
theorem gsX_X8_takeBack_1_q1 {NF : Nat} {p1 : Int32} {p2 : Int32} {v : Nat → Int32} {f : Nat → Nat → Int32} (h0 : ¬ (p1 < 0)) (h1 : ((v 41) ≤ p1)) : gsX_X8_takeBack_1 NF p1 p2 v f = (0, v, f) := by
  simp only [gsX_X8_takeBack_1, if_neg h0, if_pos h1]
theorem gsX_X8_takeBack_1_q2 {NF : Nat} {p1 : Int32} {p2 : Int32} {v : Nat → Int32} {f : Nat → Nat → Int32} (h0 : ¬ (p1 < 0)) (h1 : ¬ ((v 41) ≤ p1)) (h2 : (30 ≤ p1)) : gsX_X8_takeBack_1 NF p1 p2 v f = (0, v, f) := by
  simp only [gsX_X8_takeBack_1, if_neg h0, if_neg h1, if_pos h2]
theorem gsX_X8_takeBack_1_q3 {NF : Nat} {p1 : Int32} {p2 : Int32} {v : Nat → Int32} {f : Nat → Nat → Int32} {t8 : Int32} {f10 : Nat → Nat → Int32} (h0 : ¬ (p1 < 0)) (h1 : ¬ ((v 41) ≤ p1)) (h2 : ¬ (30 ≤ p1)) (h3 : t8 = f 26 (p1).toNatClampNeg) (h4 : (t8 = (-1))) (h5 : f10 = upd2 f 26 (upd (f 26) p1.toNatClampNeg p2)) : gsX_X8_takeBack_1 NF p1 p2 v f = (1, v, f10) := by
  subst h3 h5
  simp only [gsX_X8_takeBack_1, if_neg h0, if_neg h1, if_neg h2, if_pos h4]
theorem gsX_X8_takeBack_1_q4 {NF : Nat} {p1 : Int32} {p2 : Int32} {v : Nat → Int32} {f : Nat → Nat → Int32} {t8 : Int32} (h0 : ¬ (p1 < 0)) (h1 : ¬ ((v 41) ≤ p1)) (h2 : ¬ (30 ≤ p1)) (h3 : t8 = f 26 (p1).toNatClampNeg) (h4 : ¬ (t8 = (-1))) : gsX_X8_takeBack_1 NF p1 p2 v f = (0, v, f) := by
  subst h3
  simp only [gsX_X8_takeBack_1, if_neg h0, if_neg h1, if_neg h2, if_neg h4]
def gsX_X10_untell_1 (NF : Nat) (p1 : Int32) (v : Nat → Int32) (f : Nat → Nat → Int32) : Int32 × (Nat → Int32) × (Nat → Nat → Int32) :=
  match gsX_X8_takeBack_1 NF p1 (v 0) v f with
  | (r1, v3, f4) =>
    if r1 = 1 then
      (1, v3, f4)
    else
      (0, v3, f4)
theorem gsX_X10_untell_1_q0 {NF : Nat} {p1 : Int32} {v : Nat → Int32} {f : Nat → Nat → Int32} {v3 : Nat → Int32} {f4 : Nat → Nat → Int32} (h0 : gsX_X8_takeBack_1 NF p1 (v 0) v f = (1, v3, f4)) : gsX_X10_untell_1 NF p1 v f = (1, v3, f4) := by
  simp only [gsX_X10_untell_1, h0, ite11, ite01, if_true, if_false]
theorem gsX_X10_untell_1_q1 {NF : Nat} {p1 : Int32} {v : Nat → Int32} {f : Nat → Nat → Int32} {v3 : Nat → Int32} {f4 : Nat → Nat → Int32} (h0 : gsX_X8_takeBack_1 NF p1 (v 0) v f = (0, v3, f4)) : gsX_X10_untell_1 NF p1 v f = (0, v3, f4) := by
  simp only [gsX_X10_untell_1, h0, ite11, ite01, if_true, if_false]
def gsX_X10_later_1 (NF : Nat) (p1 : Int32) (v : Nat → Int32) (f : Nat → Nat → Int32) : Int32 × (Nat → Int32) × (Nat → Nat → Int32) :=
  if p1 < 0 then
    ((-1), v, f)
  else
    if 1000 < p1 then
      ((-1), v, f)
    else
      let t3 : Int32 := (v 0) + p1
      if t3 ≤ 100000 then
        (t3, (upd v 0 t3), f)
      else
        ((-1), v, f)
theorem gsX_X10_later_1_q0 {NF : Nat} {p1 : Int32} {v : Nat → Int32} {f : Nat → Nat → Int32} (h0 : (p1 < 0)) : gsX_X10_later_1 NF p1 v f = ((-1), v, f) := by
  simp only [gsX_X10_later_1, if_pos h0]
theorem gsX_X10_later_1_q1 {NF : Nat} {p1 : Int32} {v : Nat → Int32} {f : Nat → Nat → Int32} (h0 : ¬ (p1 < 0)) (h1 : (1000 < p1)) : gsX_X10_later_1 NF p1 v f = ((-1), v, f) := by
  simp only [gsX_X10_later_1, if_neg h0, if_pos h1]
theorem gsX_X10_later_1_q2 {NF : Nat} {p1 : Int32} {v : Nat → Int32} {f : Nat → Nat → Int32} {t3 : Int32} (h0 : ¬ (p1 < 0)) (h1 : ¬ (1000 < p1)) (h2 : t3 = (v 0) + p1) (h3 : (t3 ≤ 100000)) : gsX_X10_later_1 NF p1 v f = (t3, (upd v 0 t3), f) := by
  subst h2
  simp only [gsX_X10_later_1, if_neg h0, if_neg h1, if_pos h3]
theorem gsX_X10_later_1_q3 {NF : Nat} {p1 : Int32} {v : Nat → Int32} {f : Nat → Nat → Int32} {t3 : Int32} (h0 : ¬ (p1 < 0)) (h1 : ¬ (1000 < p1)) (h2 : t3 = (v 0) + p1) (h3 : ¬ (t3 ≤ 100000)) : gsX_X10_later_1 NF p1 v f = ((-1), v, f) := by
  subst h2
  simp only [gsX_X10_later_1, if_neg h0, if_neg h1, if_neg h3]
def gsX_X10_commonDivisor_1_L1 (NF : Nat) : Nat → (Int32) → (Int32) → (Int32) → Int32
  | 0, _, _, _ => 0
  | n1 + 1, l2_1, l3_1, l4_1 =>
    if 100 ≤ l4_1 then
      l2_1
    else
      if l3_1 = 0 then
        l2_1
      else
        let t4 : Int32 := l2_1 - l2_1 / l3_1 * l3_1
        let t5 : Int32 := l4_1 + 1
        gsX_X10_commonDivisor_1_L1 NF n1 l3_1 t4 t5
def gsX_X10_commonDivisor_1 (NF : Nat) (p0 : Int32) (p1 : Int32) (v : Nat → Int32) (f : Nat → Nat → Int32) : Int32 :=
  gsX_X10_commonDivisor_1_L1 NF (4294967296 + NF) p0 p1 0
theorem gsX_X10_commonDivisor_1_q3 {NF : Nat} {p0 : Int32} {p1 : Int32} {v : Nat → Int32} {f : Nat → Nat → Int32}  : gsX_X10_commonDivisor_1 NF p0 p1 v f = gsX_X10_commonDivisor_1_L1 NF (4294967296 + NF) p0 p1 0 := by
  simp only [gsX_X10_commonDivisor_1]
theorem gsX_X10_commonDivisor_1_q0 {NF : Nat} {n1 : Nat} {l2_1 : Int32} {l3_1 : Int32} {l4_1 : Int32} (h0 : (100 ≤ l4_1)) : gsX_X10_commonDivisor_1_L1 NF (n1 + 1) l2_1 l3_1 l4_1 = l2_1 := by
  simp only [gsX_X10_commonDivisor_1_L1, if_pos h0]
theorem gsX_X10_commonDivisor_1_q1 {NF : Nat} {n1 : Nat} {l2_1 : Int32} {l3_1 : Int32} {l4_1 : Int32} (h0 : ¬ (100 ≤ l4_1)) (h1 : (l3_1 = 0)) : gsX_X10_commonDivisor_1_L1 NF (n1 + 1) l2_1 l3_1 l4_1 = l2_1 := by
  simp only [gsX_X10_commonDivisor_1_L1, if_neg h0, if_pos h1]
theorem gsX_X10_commonDivisor_1_q2 {NF : Nat} {n1 : Nat} {l2_1 : Int32} {l3_1 : Int32} {l4_1 : Int32} {t4 : Int32} {t5 : Int32} (h0 : ¬ (100 ≤ l4_1)) (h1 : ¬ (l3_1 = 0)) (h2 : t4 = l2_1 - l2_1 / l3_1 * l3_1) (h3 : t5 = l4_1 + 1) : gsX_X10_commonDivisor_1_L1 NF (n1 + 1) l2_1 l3_1 l4_1 = gsX_X10_commonDivisor_1_L1 NF n1 l3_1 t4 t5 := by
  subst h2 h3
  simp only [gsX_X10_commonDivisor_1_L1, if_neg h0, if_neg h1]
def gsX_X10_odds_1_L5 (NF : Nat) (p1 : Int32) (p2 : Int32) (v : Nat → Int32) (f : Nat → Nat → Int32) : Nat → (Int32) → (Int32) → (Int32) → Int32
  | 0, _, _, _ => 0
  | n5 + 1, l3_5, l4_5, l5_5 =>
    if p1 ≤ l5_5 then
      let r9 : Int32 := gsX_X10_commonDivisor_1 NF l4_5 l3_5 v f
      if 1 ≤ r9 then
        if p2 = 0 then
          let t14 : Int32 := l3_5 / r9
          t14
        else
          let t13 : Int32 := l4_5 / r9
          t13
      else
        (-1)
    else
      let t17 : Int32 := 100 - (v 36)
      let t18 : Int32 := l3_5 * t17
      let t19 : Int32 := l4_5 * 100
      let t20 : Int32 := l5_5 + 1
      gsX_X10_odds_1_L5 NF p1 p2 v f n5 t18 t19 t20
def gsX_X10_odds_1 (NF : Nat) (p1 : Int32) (p2 : Int32) (v : Nat → Int32) (f : Nat → Nat → Int32) : Int32 :=
  if p1 < 0 then
    (-1)
  else
    if 4 < p1 then
      (-1)
    else
      if p2 < 0 then
        (-1)
      else
        if p2 ≤ 1 then
          gsX_X10_odds_1_L5 NF p1 p2 v f (4294967296 + NF) 1 1 0
        else
          (-1)
theorem gsX_X10_odds_1_q0 {NF : Nat} {p1 : Int32} {p2 : Int32} {v : Nat → Int32} {f : Nat → Nat → Int32} (h0 : (p1 < 0)) : gsX_X10_odds_1 NF p1 p2 v f = (-1) := by
  simp only [gsX_X10_odds_1, if_pos h0]
theorem gsX_X10_odds_1_q1 {NF : Nat} {p1 : Int32} {p2 : Int32} {v : Nat → Int32} {f : Nat → Nat → Int32} (h0 : ¬ (p1 < 0)) (h1 : (4 < p1)) : gsX_X10_odds_1 NF p1 p2 v f = (-1) := by
  simp only [gsX_X10_odds_1, if_neg h0, if_pos h1]
theorem gsX_X10_odds_1_q2 {NF : Nat} {p1 : Int32} {p2 : Int32} {v : Nat → Int32} {f : Nat → Nat → Int32} (h0 : ¬ (p1 < 0)) (h1 : ¬ (4 < p1)) (h2 : (p2 < 0)) : gsX_X10_odds_1 NF p1 p2 v f = (-1) := by
  simp only [gsX_X10_odds_1, if_neg h0, if_neg h1, if_pos h2]
theorem gsX_X10_odds_1_q7 {NF : Nat} {p1 : Int32} {p2 : Int32} {v : Nat → Int32} {f : Nat → Nat → Int32} (h0 : ¬ (p1 < 0)) (h1 : ¬ (4 < p1)) (h2 : ¬ (p2 < 0)) (h3 : (p2 ≤ 1)) : gsX_X10_odds_1 NF p1 p2 v f = gsX_X10_odds_1_L5 NF p1 p2 v f (4294967296 + NF) 1 1 0 := by
  simp only [gsX_X10_odds_1, if_neg h0, if_neg h1, if_neg h2, if_pos h3]
theorem gsX_X10_odds_1_q8 {NF : Nat} {p1 : Int32} {p2 : Int32} {v : Nat → Int32} {f : Nat → Nat → Int32} (h0 : ¬ (p1 < 0)) (h1 : ¬ (4 < p1)) (h2 : ¬ (p2 < 0)) (h3 : ¬ (p2 ≤ 1)) : gsX_X10_odds_1 NF p1 p2 v f = (-1) := by
  simp only [gsX_X10_odds_1, if_neg h0, if_neg h1, if_neg h2, if_neg h3]
theorem gsX_X10_odds_1_q3 {NF : Nat} {p1 : Int32} {p2 : Int32} {v : Nat → Int32} {f : Nat → Nat → Int32} {n5 : Nat} {l3_5 : Int32} {l4_5 : Int32} {l5_5 : Int32} {r9 : Int32} {t13 : Int32} (h0 : (p1 ≤ l5_5)) (h1 : r9 = gsX_X10_commonDivisor_1 NF l4_5 l3_5 v f) (h2 : (1 ≤ r9)) (h3 : ¬ (p2 = 0)) (h4 : t13 = l4_5 / r9) : gsX_X10_odds_1_L5 NF p1 p2 v f (n5 + 1) l3_5 l4_5 l5_5 = t13 := by
  subst h1 h4
  simp only [gsX_X10_odds_1_L5, if_pos h0, if_pos h2, if_neg h3]
theorem gsX_X10_odds_1_q4 {NF : Nat} {p1 : Int32} {p2 : Int32} {v : Nat → Int32} {f : Nat → Nat → Int32} {n5 : Nat} {l3_5 : Int32} {l4_5 : Int32} {l5_5 : Int32} {r9 : Int32} {t14 : Int32} (h0 : (p1 ≤ l5_5)) (h1 : r9 = gsX_X10_commonDivisor_1 NF l4_5 l3_5 v f) (h2 : (1 ≤ r9)) (h3 : (p2 = 0)) (h4 : t14 = l3_5 / r9) : gsX_X10_odds_1_L5 NF p1 p2 v f (n5 + 1) l3_5 l4_5 l5_5 = t14 := by
  subst h1 h4
  simp only [gsX_X10_odds_1_L5, if_pos h0, if_pos h2, if_pos h3]
theorem gsX_X10_odds_1_q5 {NF : Nat} {p1 : Int32} {p2 : Int32} {v : Nat → Int32} {f : Nat → Nat → Int32} {n5 : Nat} {l3_5 : Int32} {l4_5 : Int32} {l5_5 : Int32} {r9 : Int32} (h0 : (p1 ≤ l5_5)) (h1 : r9 = gsX_X10_commonDivisor_1 NF l4_5 l3_5 v f) (h2 : ¬ (1 ≤ r9)) : gsX_X10_odds_1_L5 NF p1 p2 v f (n5 + 1) l3_5 l4_5 l5_5 = (-1) := by
  subst h1
  simp only [gsX_X10_odds_1_L5, if_pos h0, if_neg h2]
theorem gsX_X10_odds_1_q6 {NF : Nat} {p1 : Int32} {p2 : Int32} {v : Nat → Int32} {f : Nat → Nat → Int32} {n5 : Nat} {l3_5 : Int32} {l4_5 : Int32} {l5_5 : Int32} {t17 : Int32} {t18 : Int32} {t19 : Int32} {t20 : Int32} (h0 : ¬ (p1 ≤ l5_5)) (h1 : t17 = 100 - (v 36)) (h2 : t18 = l3_5 * t17) (h3 : t19 = l4_5 * 100) (h4 : t20 = l5_5 + 1) : gsX_X10_odds_1_L5 NF p1 p2 v f (n5 + 1) l3_5 l4_5 l5_5 = gsX_X10_odds_1_L5 NF p1 p2 v f n5 t18 t19 t20 := by
  subst h1 h2 h3 h4
  simp only [gsX_X10_odds_1_L5, if_neg h0]
