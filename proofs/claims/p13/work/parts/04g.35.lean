def gsY_X11_readAll_1_L11 (NF : Nat) : Nat → (Nat → Int32) → (Nat → Nat → Int32) → (Int64) → (Nat → Int64) → (Nat → Int32) × (Nat → Nat → Int32) × (Int64) × (Nat → Int64)
  | 0, _, _, _, _ => ((fun _ => 0), (fun _ _ => 0), 0, (fun _ => 0))
  | n11 + 1, v11, f11, w11, g11 =>
    if (v11 1) = 0 then
      if (v11 5) = 0 then
        (v11, f11, w11, g11)
      else
        match gsY_X11_readLine_1 NF v11 f11 w11 g11 with
        | (v15, f16, w17, g18) =>
          gsY_X11_readAll_1_L11 NF n11 v15 f16 w17 g18
    else
      (v11, f11, w11, g11)
def gsY_X11_readAll_1 (NF : Nat) (v : Nat → Int32) (f : Nat → Nat → Int32) (w : Int64) (g : Nat → Int64) : (Nat → Int32) × (Nat → Nat → Int32) × (Int64) × (Nat → Int64) :=
  match gsY_X11_token_1 NF (upd (upd (upd (upd (upd (upd (upd (upd (upd (upd (upd (upd (upd (upd (upd (upd (upd (upd (upd v 4 (v 0)) 0 0) 3 0) 1 0) 2 (-1)) 17 0) 18 0) 19 10) 20 150) 21 2) 22 0) 23 0) 30 0) 31 0) 32 0) 33 0) 34 0) 15 0) 11 0) f w g with
  | (v2, f3, w4, g5) =>
    gsY_X11_readAll_1_L11 NF (4294967296 + NF) v2 f3 w4 g5
theorem gsY_X11_readAll_1_q3 {NF : Nat} {v : Nat → Int32} {f : Nat → Nat → Int32} {w : Int64} {g : Nat → Int64} {v2 : Nat → Int32} {f3 : Nat → Nat → Int32} {w4 : Int64} {g5 : Nat → Int64} (h0 : gsY_X11_token_1 NF (upd (upd (upd (upd (upd (upd (upd (upd (upd (upd (upd (upd (upd (upd (upd (upd (upd (upd (upd v 4 (v 0)) 0 0) 3 0) 1 0) 2 (-1)) 17 0) 18 0) 19 10) 20 150) 21 2) 22 0) 23 0) 30 0) 31 0) 32 0) 33 0) 34 0) 15 0) 11 0) f w g = (v2, f3, w4, g5)) : gsY_X11_readAll_1 NF v f w g = gsY_X11_readAll_1_L11 NF (4294967296 + NF) v2 f3 w4 g5 := by
  simp only [gsY_X11_readAll_1, h0]
theorem gsY_X11_readAll_1_q0 {NF : Nat} {n11 : Nat} {v11 : Nat → Int32} {f11 : Nat → Nat → Int32} {w11 : Int64} {g11 : Nat → Int64} (h0 : ¬ ((v11 1) = 0)) : gsY_X11_readAll_1_L11 NF (n11 + 1) v11 f11 w11 g11 = (v11, f11, w11, g11) := by
  simp only [gsY_X11_readAll_1_L11, if_neg h0]
theorem gsY_X11_readAll_1_q1 {NF : Nat} {n11 : Nat} {v11 : Nat → Int32} {f11 : Nat → Nat → Int32} {w11 : Int64} {g11 : Nat → Int64} (h0 : ((v11 1) = 0)) (h1 : ((v11 5) = 0)) : gsY_X11_readAll_1_L11 NF (n11 + 1) v11 f11 w11 g11 = (v11, f11, w11, g11) := by
  simp only [gsY_X11_readAll_1_L11, if_pos h0, if_pos h1]
theorem gsY_X11_readAll_1_q2 {NF : Nat} {n11 : Nat} {v11 : Nat → Int32} {f11 : Nat → Nat → Int32} {w11 : Int64} {g11 : Nat → Int64} {v15 : Nat → Int32} {f16 : Nat → Nat → Int32} {w17 : Int64} {g18 : Nat → Int64} (h0 : ((v11 1) = 0)) (h1 : ¬ ((v11 5) = 0)) (h2 : gsY_X11_readLine_1 NF v11 f11 w11 g11 = (v15, f16, w17, g18)) : gsY_X11_readAll_1_L11 NF (n11 + 1) v11 f11 w11 g11 = gsY_X11_readAll_1_L11 NF n11 v15 f16 w17 g18 := by
  simp only [gsY_X11_readAll_1_L11, if_pos h0, if_neg h1, h2]
def gsY_X11_begin_1_L7 (NF : Nat) (v : Nat → Int32) : Nat → (Int32) → (Nat → Int32) → (Nat → Nat → Int32) → (Int64) → (Nat → Int64) → (Nat → Int32) × (Nat → Nat → Int32) × (Int64) × (Nat → Int64)
  | 0, _, _, _, _, _ => ((fun _ => 0), (fun _ _ => 0), 0, (fun _ => 0))
  | n7 + 1, l1_7, v7, f7, w7, g7 =>
    if (v 25) ≤ l1_7 then
      (v7, f7, w7, g7)
    else
      let t13 : Int32 := 12 + l1_7
      let t14 : Int32 := f7 19 (l1_7).toNatClampNeg
      let f15 : Nat → Nat → Int32 := upd2 f7 24 (upd (f7 24) t13.toNatClampNeg t14)
      let t16 : Int32 := 18 + l1_7
      let t17 : Int32 := f15 20 (l1_7).toNatClampNeg
      let f18 : Nat → Nat → Int32 := upd2 f15 24 (upd (f15 24) t16.toNatClampNeg t17)
      let t19 : Int32 := 24 + l1_7
      let t20 : Int32 := f18 21 (l1_7).toNatClampNeg
      let f21 : Nat → Nat → Int32 := upd2 f18 24 (upd (f18 24) t19.toNatClampNeg t20)
      let t22 : Int32 := 30 + l1_7
      let t23 : Int32 := f21 22 (l1_7).toNatClampNeg
      let f24 : Nat → Nat → Int32 := upd2 f21 24 (upd (f21 24) t22.toNatClampNeg t23)
      let t25 : Int32 := l1_7 + 1
      gsY_X11_begin_1_L7 NF v n7 t25 v7 f24 w7 g7
def gsY_X11_begin_1_L3 (NF : Nat) (v : Nat → Int32) : Nat → (Int32) → (Nat → Int32) → (Nat → Nat → Int32) → (Int64) → (Nat → Int64) → (Nat → Int32) × (Nat → Nat → Int32) × (Int64) × (Nat → Int64)
  | 0, _, _, _, _, _ => ((fun _ => 0), (fun _ _ => 0), 0, (fun _ => 0))
  | n3 + 1, l1_3, v3, f3, w3, g3 =>
    if (v 24) ≤ l1_3 then
      gsY_X11_begin_1_L7 NF v (4294967296 + NF) 0 v3 f3 w3 g3
    else
      let t29 : Int32 := f3 17 (l1_3).toNatClampNeg
      let f30 : Nat → Nat → Int32 := upd2 f3 24 (upd (f3 24) l1_3.toNatClampNeg t29)
      let t31 : Int32 := 6 + l1_3
      let f32 : Nat → Nat → Int32 := upd2 f30 24 (upd (f30 24) t31.toNatClampNeg (-1))
      let t33 : Int32 := l1_3 + 1
      gsY_X11_begin_1_L3 NF v n3 t33 v3 f32 w3 g3
def gsY_X11_begin_1_L1 (NF : Nat) (v : Nat → Int32) : Nat → (Int32) → (Nat → Int32) → (Nat → Nat → Int32) → (Int64) → (Nat → Int64) → (Nat → Int32) × (Nat → Nat → Int32) × (Int64) × (Nat → Int64)
  | 0, _, _, _, _, _ => ((fun _ => 0), (fun _ _ => 0), 0, (fun _ => 0))
  | n1 + 1, l1_1, v1, f1, w1, g1 =>
    if 39 ≤ l1_1 then
      gsY_X11_begin_1_L3 NF v (4294967296 + NF) 0 v1 f1 w1 g1
    else
      let f35 : Nat → Nat → Int32 := upd2 f1 24 (upd (f1 24) l1_1.toNatClampNeg 0)
      let t36 : Int32 := l1_1 + 1
      gsY_X11_begin_1_L1 NF v n1 t36 v1 f35 w1 g1
def gsY_X11_begin_1 (NF : Nat) (v : Nat → Int32) (f : Nat → Nat → Int32) (w : Int64) (g : Nat → Int64) : (Nat → Int32) × (Nat → Nat → Int32) × (Int64) × (Nat → Int64) :=
  gsY_X11_begin_1_L1 NF v (4294967296 + NF) 0 v f w g
theorem gsY_X11_begin_1_q6 {NF : Nat} {v : Nat → Int32} {f : Nat → Nat → Int32} {w : Int64} {g : Nat → Int64}  : gsY_X11_begin_1 NF v f w g = gsY_X11_begin_1_L1 NF v (4294967296 + NF) 0 v f w g := by
  simp only [gsY_X11_begin_1]
theorem gsY_X11_begin_1_q4 {NF : Nat} {v : Nat → Int32} {n1 : Nat} {l1_1 : Int32} {v1 : Nat → Int32} {f1 : Nat → Nat → Int32} {w1 : Int64} {g1 : Nat → Int64} (h0 : (39 ≤ l1_1)) : gsY_X11_begin_1_L1 NF v (n1 + 1) l1_1 v1 f1 w1 g1 = gsY_X11_begin_1_L3 NF v (4294967296 + NF) 0 v1 f1 w1 g1 := by
  simp only [gsY_X11_begin_1_L1, if_pos h0]
theorem gsY_X11_begin_1_q5 {NF : Nat} {v : Nat → Int32} {n1 : Nat} {l1_1 : Int32} {v1 : Nat → Int32} {f1 : Nat → Nat → Int32} {w1 : Int64} {g1 : Nat → Int64} {f35 : Nat → Nat → Int32} {t36 : Int32} (h0 : ¬ (39 ≤ l1_1)) (h1 : f35 = upd2 f1 24 (upd (f1 24) l1_1.toNatClampNeg 0)) (h2 : t36 = l1_1 + 1) : gsY_X11_begin_1_L1 NF v (n1 + 1) l1_1 v1 f1 w1 g1 = gsY_X11_begin_1_L1 NF v n1 t36 v1 f35 w1 g1 := by
  subst h1 h2
  simp only [gsY_X11_begin_1_L1, if_neg h0]
theorem gsY_X11_begin_1_q2 {NF : Nat} {v : Nat → Int32} {n3 : Nat} {l1_3 : Int32} {v3 : Nat → Int32} {f3 : Nat → Nat → Int32} {w3 : Int64} {g3 : Nat → Int64} (h0 : ((v 24) ≤ l1_3)) : gsY_X11_begin_1_L3 NF v (n3 + 1) l1_3 v3 f3 w3 g3 = gsY_X11_begin_1_L7 NF v (4294967296 + NF) 0 v3 f3 w3 g3 := by
  simp only [gsY_X11_begin_1_L3, if_pos h0]
theorem gsY_X11_begin_1_q3 {NF : Nat} {v : Nat → Int32} {n3 : Nat} {l1_3 : Int32} {v3 : Nat → Int32} {f3 : Nat → Nat → Int32} {w3 : Int64} {g3 : Nat → Int64} {t29 : Int32} {f30 : Nat → Nat → Int32} {t31 : Int32} {f32 : Nat → Nat → Int32} {t33 : Int32} (h0 : ¬ ((v 24) ≤ l1_3)) (h1 : t29 = f3 17 (l1_3).toNatClampNeg) (h2 : f30 = upd2 f3 24 (upd (f3 24) l1_3.toNatClampNeg t29)) (h3 : t31 = 6 + l1_3) (h4 : f32 = upd2 f30 24 (upd (f30 24) t31.toNatClampNeg (-1))) (h5 : t33 = l1_3 + 1) : gsY_X11_begin_1_L3 NF v (n3 + 1) l1_3 v3 f3 w3 g3 = gsY_X11_begin_1_L3 NF v n3 t33 v3 f32 w3 g3 := by
  subst h1 h2 h3 h4 h5
  simp only [gsY_X11_begin_1_L3, if_neg h0]
theorem gsY_X11_begin_1_q0 {NF : Nat} {v : Nat → Int32} {n7 : Nat} {l1_7 : Int32} {v7 : Nat → Int32} {f7 : Nat → Nat → Int32} {w7 : Int64} {g7 : Nat → Int64} (h0 : ((v 25) ≤ l1_7)) : gsY_X11_begin_1_L7 NF v (n7 + 1) l1_7 v7 f7 w7 g7 = (v7, f7, w7, g7) := by
  simp only [gsY_X11_begin_1_L7, if_pos h0]
theorem gsY_X11_begin_1_q1 {NF : Nat} {v : Nat → Int32} {n7 : Nat} {l1_7 : Int32} {v7 : Nat → Int32} {f7 : Nat → Nat → Int32} {w7 : Int64} {g7 : Nat → Int64} {t13 : Int32} {t14 : Int32} {f15 : Nat → Nat → Int32} {t16 : Int32} {t17 : Int32} {f18 : Nat → Nat → Int32} {t19 : Int32} {t20 : Int32} {f21 : Nat → Nat → Int32} {t22 : Int32} {t23 : Int32} {f24 : Nat → Nat → Int32} {t25 : Int32} (h0 : ¬ ((v 25) ≤ l1_7)) (h1 : t13 = 12 + l1_7) (h2 : t14 = f7 19 (l1_7).toNatClampNeg) (h3 : f15 = upd2 f7 24 (upd (f7 24) t13.toNatClampNeg t14)) (h4 : t16 = 18 + l1_7) (h5 : t17 = f15 20 (l1_7).toNatClampNeg) (h6 : f18 = upd2 f15 24 (upd (f15 24) t16.toNatClampNeg t17)) (h7 : t19 = 24 + l1_7) (h8 : t20 = f18 21 (l1_7).toNatClampNeg) (h9 : f21 = upd2 f18 24 (upd (f18 24) t19.toNatClampNeg t20)) (h10 : t22 = 30 + l1_7) (h11 : t23 = f21 22 (l1_7).toNatClampNeg) (h12 : f24 = upd2 f21 24 (upd (f21 24) t22.toNatClampNeg t23)) (h13 : t25 = l1_7 + 1) : gsY_X11_begin_1_L7 NF v (n7 + 1) l1_7 v7 f7 w7 g7 = gsY_X11_begin_1_L7 NF v n7 t25 v7 f24 w7 g7 := by
  subst h1 h2 h3 h4 h5 h6 h7 h8 h9 h10 h11 h12 h13
  simp only [gsY_X11_begin_1_L7, if_neg h0]
def gsY_X11_keepAir_1_L1 (NF : Nat) : Nat → (Int32) → (Nat → Int32) → (Nat → Nat → Int32) → (Int64) → (Nat → Int64) → (Nat → Int32) × (Nat → Nat → Int32) × (Int64) × (Nat → Int64)
  | 0, _, _, _, _, _ => ((fun _ => 0), (fun _ _ => 0), 0, (fun _ => 0))
  | n1 + 1, l1_1, v1, f1, w1, g1 =>
    if 39 ≤ l1_1 then
      (v1, f1, w1, g1)
    else
      let t3 : Int32 := f1 24 (l1_1).toNatClampNeg
      let f4 : Nat → Nat → Int32 := upd2 f1 23 (upd (f1 23) l1_1.toNatClampNeg t3)
      let t5 : Int32 := l1_1 + 1
      gsY_X11_keepAir_1_L1 NF n1 t5 v1 f4 w1 g1
def gsY_X11_keepAir_1 (NF : Nat) (v : Nat → Int32) (f : Nat → Nat → Int32) (w : Int64) (g : Nat → Int64) : (Nat → Int32) × (Nat → Nat → Int32) × (Int64) × (Nat → Int64) :=
  gsY_X11_keepAir_1_L1 NF (4294967296 + NF) 0 v f w g
theorem gsY_X11_keepAir_1_q2 {NF : Nat} {v : Nat → Int32} {f : Nat → Nat → Int32} {w : Int64} {g : Nat → Int64}  : gsY_X11_keepAir_1 NF v f w g = gsY_X11_keepAir_1_L1 NF (4294967296 + NF) 0 v f w g := by
  simp only [gsY_X11_keepAir_1]
theorem gsY_X11_keepAir_1_q0 {NF : Nat} {n1 : Nat} {l1_1 : Int32} {v1 : Nat → Int32} {f1 : Nat → Nat → Int32} {w1 : Int64} {g1 : Nat → Int64} (h0 : (39 ≤ l1_1)) : gsY_X11_keepAir_1_L1 NF (n1 + 1) l1_1 v1 f1 w1 g1 = (v1, f1, w1, g1) := by
  simp only [gsY_X11_keepAir_1_L1, if_pos h0]
theorem gsY_X11_keepAir_1_q1 {NF : Nat} {n1 : Nat} {l1_1 : Int32} {v1 : Nat → Int32} {f1 : Nat → Nat → Int32} {w1 : Int64} {g1 : Nat → Int64} {t3 : Int32} {f4 : Nat → Nat → Int32} {t5 : Int32} (h0 : ¬ (39 ≤ l1_1)) (h1 : t3 = f1 24 (l1_1).toNatClampNeg) (h2 : f4 = upd2 f1 23 (upd (f1 23) l1_1.toNatClampNeg t3)) (h3 : t5 = l1_1 + 1) : gsY_X11_keepAir_1_L1 NF (n1 + 1) l1_1 v1 f1 w1 g1 = gsY_X11_keepAir_1_L1 NF n1 t5 v1 f4 w1 g1 := by
  subst h1 h2 h3
  simp only [gsY_X11_keepAir_1_L1, if_neg h0]
def gsY_X11_regiment_1_L31 (NF : Nat) (v2 : Nat → Int32) : Nat → (Int32) → (Nat → Int32) → (Nat → Nat → Int32) → (Int64) → (Nat → Int64) → Int32 × (Nat → Int32) × (Nat → Nat → Int32) × (Int64) × (Nat → Int64)
  | 0, _, _, _, _, _ => (0, (fun _ => 0), (fun _ _ => 0), 0, (fun _ => 0))
  | n31 + 1, l1_31, v31, f31, w31, g31 =>
    if 3 ≤ l1_31 then
      ((v2 17), v31, f31, w31, g31)
    else
      let f33 : Nat → Nat → Int32 := upd2 f31 36 (upd (f31 36) l1_31.toNatClampNeg (vp_nar .boolean 0))
      let t34 : Int32 := l1_31 + 1
      gsY_X11_regiment_1_L31 NF v2 n31 t34 v31 f33 w31 g31
def gsY_X11_regiment_1_L16 (NF : Nat) (v2 : Nat → Int32) : Nat → (Int32) → (Nat → Int32) → (Nat → Nat → Int32) → (Int64) → (Nat → Int64) → Int32 × (Nat → Int32) × (Nat → Nat → Int32) × (Int64) × (Nat → Int64)
  | 0, _, _, _, _, _ => (0, (fun _ => 0), (fun _ _ => 0), 0, (fun _ => 0))
  | n16 + 1, l1_16, v16, f16, w16, g16 =>
    if (v2 18) ≤ l1_16 then
      match gsY_X11_begin_1 NF v16 f16 w16 g16 with
      | (v21, f22, w23, g24) =>
        let f25 : Nat → Nat → Int32 := upd2 f22 24 (upd (f22 24) (38 : Int32).toNatClampNeg (v21 23))
        match gsY_X11_keepAir_1 NF v21 f25 w23 g24 with
        | (v27, f28, w29, g30) =>
          gsY_X11_regiment_1_L31 NF v2 (4294967296 + NF) 0 (upd (upd (upd (upd v27 35 0) 36 0) 38 0) 37 0) f28 w29 g30
    else
      let t39 : Int32 := f16 12 (l1_16).toNatClampNeg
      let f40 : Nat → Nat → Int32 := upd2 f16 19 (upd (f16 19) l1_16.toNatClampNeg t39)
      let t41 : Int32 := f40 13 (l1_16).toNatClampNeg
      let f42 : Nat → Nat → Int32 := upd2 f40 20 (upd (f40 20) l1_16.toNatClampNeg t41)
      let t43 : Int32 := f42 14 (l1_16).toNatClampNeg
      let f44 : Nat → Nat → Int32 := upd2 f42 21 (upd (f42 21) l1_16.toNatClampNeg t43)
      let t45 : Int32 := f44 15 (l1_16).toNatClampNeg
      let f46 : Nat → Nat → Int32 := upd2 f44 22 (upd (f44 22) l1_16.toNatClampNeg t45)
      let t47 : Int32 := l1_16 + 1
      gsY_X11_regiment_1_L16 NF v2 n16 t47 v16 f46 w16 g16
def gsY_X11_regiment_1_L12 (NF : Nat) (v2 : Nat → Int32) : Nat → (Int32) → (Nat → Int32) → (Nat → Nat → Int32) → (Int64) → (Nat → Int64) → Int32 × (Nat → Int32) × (Nat → Nat → Int32) × (Int64) × (Nat → Int64)
  | 0, _, _, _, _, _ => (0, (fun _ => 0), (fun _ _ => 0), 0, (fun _ => 0))
  | n12 + 1, l1_12, v12, f12, w12, g12 =>
    if (v2 17) ≤ l1_12 then
      gsY_X11_regiment_1_L16 NF v2 (4294967296 + NF) 0 v12 f12 w12 g12
    else
      let t51 : Int32 := f12 9 (l1_12).toNatClampNeg
      let f52 : Nat → Nat → Int32 := upd2 f12 16 (upd (f12 16) l1_12.toNatClampNeg t51)
      let t53 : Int32 := f52 10 (l1_12).toNatClampNeg
      let f54 : Nat → Nat → Int32 := upd2 f52 17 (upd (f52 17) l1_12.toNatClampNeg t53)
      let t55 : Int32 := f54 11 (l1_12).toNatClampNeg
      let f56 : Nat → Nat → Int32 := upd2 f54 18 (upd (f54 18) l1_12.toNatClampNeg t55)
      let t57 : Int32 := l1_12 + 1
      gsY_X11_regiment_1_L12 NF v2 n12 t57 v12 f56 w12 g12
def gsY_X11_regiment_1_L10 (NF : Nat) (v2 : Nat → Int32) : Nat → (Int32) → (Nat → Int32) → (Nat → Nat → Int32) → (Int64) → (Nat → Int64) → Int32 × (Nat → Int32) × (Nat → Nat → Int32) × (Int64) × (Nat → Int64)
  | 0, _, _, _, _, _ => (0, (fun _ => 0), (fun _ _ => 0), 0, (fun _ => 0))
  | n10 + 1, l1_10, v10, f10, w10, g10 =>
    if 0 ≤ l1_10 then
      gsY_X11_regiment_1_L12 NF v2 (4294967296 + NF) 0 v10 f10 w10 g10
    else
      let t59 : Int32 := f10 2 (l1_10).toNatClampNeg
      let f60 : Nat → Nat → Int32 := upd2 f10 4 (upd (f10 4) l1_10.toNatClampNeg t59)
      let t61 : Int32 := f60 3 (l1_10).toNatClampNeg
      let f62 : Nat → Nat → Int32 := upd2 f60 5 (upd (f60 5) l1_10.toNatClampNeg t61)
      let t63 : Int32 := l1_10 + 1
      gsY_X11_regiment_1_L10 NF v2 n10 t63 v10 f62 w10 g10
def gsY_X11_regiment_1_L89 (NF : Nat) (v2 : Nat → Int32) : Nat → (Int32) → (Nat → Int32) → (Nat → Nat → Int32) → (Int64) → (Nat → Int64) → Int32 × (Nat → Int32) × (Nat → Nat → Int32) × (Int64) × (Nat → Int64)
  | 0, _, _, _, _, _ => (0, (fun _ => 0), (fun _ _ => 0), 0, (fun _ => 0))
  | n89 + 1, l1_89, v89, f89, w89, g89 =>
    if 3 ≤ l1_89 then
      ((v2 17), v89, f89, w89, g89)
    else
      let f91 : Nat → Nat → Int32 := upd2 f89 36 (upd (f89 36) l1_89.toNatClampNeg (vp_nar .boolean 0))
      let t92 : Int32 := l1_89 + 1
      gsY_X11_regiment_1_L89 NF v2 n89 t92 v89 f91 w89 g89
def gsY_X11_regiment_1_L74 (NF : Nat) (v2 : Nat → Int32) : Nat → (Int32) → (Nat → Int32) → (Nat → Nat → Int32) → (Int64) → (Nat → Int64) → Int32 × (Nat → Int32) × (Nat → Nat → Int32) × (Int64) × (Nat → Int64)
  | 0, _, _, _, _, _ => (0, (fun _ => 0), (fun _ _ => 0), 0, (fun _ => 0))
  | n74 + 1, l1_74, v74, f74, w74, g74 =>
    if (v2 18) ≤ l1_74 then
      match gsY_X11_begin_1 NF v74 f74 w74 g74 with
      | (v79, f80, w81, g82) =>
        let f83 : Nat → Nat → Int32 := upd2 f80 24 (upd (f80 24) (38 : Int32).toNatClampNeg (v79 23))
        match gsY_X11_keepAir_1 NF v79 f83 w81 g82 with
        | (v85, f86, w87, g88) =>
          gsY_X11_regiment_1_L89 NF v2 (4294967296 + NF) 0 (upd (upd (upd (upd v85 35 0) 36 0) 38 0) 37 0) f86 w87 g88
    else
      let t97 : Int32 := f74 12 (l1_74).toNatClampNeg
      let f98 : Nat → Nat → Int32 := upd2 f74 19 (upd (f74 19) l1_74.toNatClampNeg t97)
      let t99 : Int32 := f98 13 (l1_74).toNatClampNeg
      let f100 : Nat → Nat → Int32 := upd2 f98 20 (upd (f98 20) l1_74.toNatClampNeg t99)
      let t101 : Int32 := f100 14 (l1_74).toNatClampNeg
      let f102 : Nat → Nat → Int32 := upd2 f100 21 (upd (f100 21) l1_74.toNatClampNeg t101)
      let t103 : Int32 := f102 15 (l1_74).toNatClampNeg
      let f104 : Nat → Nat → Int32 := upd2 f102 22 (upd (f102 22) l1_74.toNatClampNeg t103)
      let t105 : Int32 := l1_74 + 1
      gsY_X11_regiment_1_L74 NF v2 n74 t105 v74 f104 w74 g74
def gsY_X11_regiment_1_L70 (NF : Nat) (v2 : Nat → Int32) : Nat → (Int32) → (Nat → Int32) → (Nat → Nat → Int32) → (Int64) → (Nat → Int64) → Int32 × (Nat → Int32) × (Nat → Nat → Int32) × (Int64) × (Nat → Int64)
  | 0, _, _, _, _, _ => (0, (fun _ => 0), (fun _ _ => 0), 0, (fun _ => 0))
  | n70 + 1, l1_70, v70, f70, w70, g70 =>
    if (v2 17) ≤ l1_70 then
      gsY_X11_regiment_1_L74 NF v2 (4294967296 + NF) 0 v70 f70 w70 g70
    else
      let t109 : Int32 := f70 9 (l1_70).toNatClampNeg
      let f110 : Nat → Nat → Int32 := upd2 f70 16 (upd (f70 16) l1_70.toNatClampNeg t109)
      let t111 : Int32 := f110 10 (l1_70).toNatClampNeg
      let f112 : Nat → Nat → Int32 := upd2 f110 17 (upd (f110 17) l1_70.toNatClampNeg t111)
      let t113 : Int32 := f112 11 (l1_70).toNatClampNeg
      let f114 : Nat → Nat → Int32 := upd2 f112 18 (upd (f112 18) l1_70.toNatClampNeg t113)
      let t115 : Int32 := l1_70 + 1
      gsY_X11_regiment_1_L70 NF v2 n70 t115 v70 f114 w70 g70
def gsY_X11_regiment_1_L66 (NF : Nat) (v2 : Nat → Int32) : Nat → (Int32) → (Nat → Int32) → (Nat → Nat → Int32) → (Int64) → (Nat → Int64) → Int32 × (Nat → Int32) × (Nat → Nat → Int32) × (Int64) × (Nat → Int64)
  | 0, _, _, _, _, _ => (0, (fun _ => 0), (fun _ _ => 0), 0, (fun _ => 0))
  | n66 + 1, l1_66, v66, f66, w66, g66 =>
    if (v2 8) ≤ l1_66 then
      gsY_X11_regiment_1_L70 NF v2 (4294967296 + NF) 0 v66 f66 w66 g66
    else
      let t119 : Int32 := f66 2 (l1_66).toNatClampNeg
      let f120 : Nat → Nat → Int32 := upd2 f66 4 (upd (f66 4) l1_66.toNatClampNeg t119)
      let t121 : Int32 := f120 3 (l1_66).toNatClampNeg
      let f122 : Nat → Nat → Int32 := upd2 f120 5 (upd (f120 5) l1_66.toNatClampNeg t121)
      let t123 : Int32 := l1_66 + 1
      gsY_X11_regiment_1_L66 NF v2 n66 t123 v66 f122 w66 g66
def gsY_X11_regiment_1 (NF : Nat) (v : Nat → Int32) (f : Nat → Nat → Int32) (w : Int64) (g : Nat → Int64) : Int32 × (Nat → Int32) × (Nat → Nat → Int32) × (Int64) × (Nat → Int64) :=
  match gsY_X11_readAll_1 NF v f w g with
  | (v2, f3, w4, g5) =>
    if (v2 1) ≤ 0 then
      if (v2 15) = 0 then
        gsY_X11_regiment_1_L10 NF v2 (4294967296 + NF) 0 (upd (upd (upd (upd (upd (upd (upd (upd (upd v2 24 (v2 17)) 25 (v2 18)) 26 (v2 19)) 27 (v2 20)) 28 (v2 21)) 29 (v2 22)) 12 (v2 11)) 16 (v2 15)) 9 0) f3 w4 g5
      else
        gsY_X11_regiment_1_L66 NF v2 (4294967296 + NF) 0 (upd (upd (upd (upd (upd (upd (upd (upd (upd v2 24 (v2 17)) 25 (v2 18)) 26 (v2 19)) 27 (v2 20)) 28 (v2 21)) 29 (v2 22)) 12 (v2 11)) 16 (v2 15)) 9 (v2 8)) f3 w4 g5
    else
      ((-1), v2, f3, w4, g5)
theorem gsY_X11_regiment_1_q8 {NF : Nat} {v : Nat → Int32} {f : Nat → Nat → Int32} {w : Int64} {g : Nat → Int64} {v2 : Nat → Int32} {f3 : Nat → Nat → Int32} {w4 : Int64} {g5 : Nat → Int64} (h0 : gsY_X11_readAll_1 NF v f w g = (v2, f3, w4, g5)) (h1 : ((v2 1) ≤ 0)) (h2 : ((v2 15) = 0)) : gsY_X11_regiment_1 NF v f w g = gsY_X11_regiment_1_L10 NF v2 (4294967296 + NF) 0 (upd (upd (upd (upd (upd (upd (upd (upd (upd v2 24 (v2 17)) 25 (v2 18)) 26 (v2 19)) 27 (v2 20)) 28 (v2 21)) 29 (v2 22)) 12 (v2 11)) 16 (v2 15)) 9 0) f3 w4 g5 := by
  simp only [gsY_X11_regiment_1, h0, if_pos h1, if_pos h2]
theorem gsY_X11_regiment_1_q17 {NF : Nat} {v : Nat → Int32} {f : Nat → Nat → Int32} {w : Int64} {g : Nat → Int64} {v2 : Nat → Int32} {f3 : Nat → Nat → Int32} {w4 : Int64} {g5 : Nat → Int64} (h0 : gsY_X11_readAll_1 NF v f w g = (v2, f3, w4, g5)) (h1 : ((v2 1) ≤ 0)) (h2 : ¬ ((v2 15) = 0)) : gsY_X11_regiment_1 NF v f w g = gsY_X11_regiment_1_L66 NF v2 (4294967296 + NF) 0 (upd (upd (upd (upd (upd (upd (upd (upd (upd v2 24 (v2 17)) 25 (v2 18)) 26 (v2 19)) 27 (v2 20)) 28 (v2 21)) 29 (v2 22)) 12 (v2 11)) 16 (v2 15)) 9 (v2 8)) f3 w4 g5 := by
  simp only [gsY_X11_regiment_1, h0, if_pos h1, if_neg h2]
theorem gsY_X11_regiment_1_q18 {NF : Nat} {v : Nat → Int32} {f : Nat → Nat → Int32} {w : Int64} {g : Nat → Int64} {v2 : Nat → Int32} {f3 : Nat → Nat → Int32} {w4 : Int64} {g5 : Nat → Int64} (h0 : gsY_X11_readAll_1 NF v f w g = (v2, f3, w4, g5)) (h1 : ¬ ((v2 1) ≤ 0)) : gsY_X11_regiment_1 NF v f w g = ((-1), v2, f3, w4, g5) := by
  simp only [gsY_X11_regiment_1, h0, if_neg h1]
theorem gsY_X11_regiment_1_q6 {NF : Nat} {v2 : Nat → Int32} {n10 : Nat} {l1_10 : Int32} {v10 : Nat → Int32} {f10 : Nat → Nat → Int32} {w10 : Int64} {g10 : Nat → Int64} (h0 : (0 ≤ l1_10)) : gsY_X11_regiment_1_L10 NF v2 (n10 + 1) l1_10 v10 f10 w10 g10 = gsY_X11_regiment_1_L12 NF v2 (4294967296 + NF) 0 v10 f10 w10 g10 := by
  simp only [gsY_X11_regiment_1_L10, if_pos h0]
theorem gsY_X11_regiment_1_q7 {NF : Nat} {v2 : Nat → Int32} {n10 : Nat} {l1_10 : Int32} {v10 : Nat → Int32} {f10 : Nat → Nat → Int32} {w10 : Int64} {g10 : Nat → Int64} {t59 : Int32} {f60 : Nat → Nat → Int32} {t61 : Int32} {f62 : Nat → Nat → Int32} {t63 : Int32} (h0 : ¬ (0 ≤ l1_10)) (h1 : t59 = f10 2 (l1_10).toNatClampNeg) (h2 : f60 = upd2 f10 4 (upd (f10 4) l1_10.toNatClampNeg t59)) (h3 : t61 = f60 3 (l1_10).toNatClampNeg) (h4 : f62 = upd2 f60 5 (upd (f60 5) l1_10.toNatClampNeg t61)) (h5 : t63 = l1_10 + 1) : gsY_X11_regiment_1_L10 NF v2 (n10 + 1) l1_10 v10 f10 w10 g10 = gsY_X11_regiment_1_L10 NF v2 n10 t63 v10 f62 w10 g10 := by
  subst h1 h2 h3 h4 h5
  simp only [gsY_X11_regiment_1_L10, if_neg h0]
theorem gsY_X11_regiment_1_q4 {NF : Nat} {v2 : Nat → Int32} {n12 : Nat} {l1_12 : Int32} {v12 : Nat → Int32} {f12 : Nat → Nat → Int32} {w12 : Int64} {g12 : Nat → Int64} (h0 : ((v2 17) ≤ l1_12)) : gsY_X11_regiment_1_L12 NF v2 (n12 + 1) l1_12 v12 f12 w12 g12 = gsY_X11_regiment_1_L16 NF v2 (4294967296 + NF) 0 v12 f12 w12 g12 := by
  simp only [gsY_X11_regiment_1_L12, if_pos h0]
theorem gsY_X11_regiment_1_q5 {NF : Nat} {v2 : Nat → Int32} {n12 : Nat} {l1_12 : Int32} {v12 : Nat → Int32} {f12 : Nat → Nat → Int32} {w12 : Int64} {g12 : Nat → Int64} {t51 : Int32} {f52 : Nat → Nat → Int32} {t53 : Int32} {f54 : Nat → Nat → Int32} {t55 : Int32} {f56 : Nat → Nat → Int32} {t57 : Int32} (h0 : ¬ ((v2 17) ≤ l1_12)) (h1 : t51 = f12 9 (l1_12).toNatClampNeg) (h2 : f52 = upd2 f12 16 (upd (f12 16) l1_12.toNatClampNeg t51)) (h3 : t53 = f52 10 (l1_12).toNatClampNeg) (h4 : f54 = upd2 f52 17 (upd (f52 17) l1_12.toNatClampNeg t53)) (h5 : t55 = f54 11 (l1_12).toNatClampNeg) (h6 : f56 = upd2 f54 18 (upd (f54 18) l1_12.toNatClampNeg t55)) (h7 : t57 = l1_12 + 1) : gsY_X11_regiment_1_L12 NF v2 (n12 + 1) l1_12 v12 f12 w12 g12 = gsY_X11_regiment_1_L12 NF v2 n12 t57 v12 f56 w12 g12 := by
  subst h1 h2 h3 h4 h5 h6 h7
  simp only [gsY_X11_regiment_1_L12, if_neg h0]
theorem gsY_X11_regiment_1_q2 {NF : Nat} {v2 : Nat → Int32} {n16 : Nat} {l1_16 : Int32} {v16 : Nat → Int32} {f16 : Nat → Nat → Int32} {w16 : Int64} {g16 : Nat → Int64} {v21 : Nat → Int32} {f22 : Nat → Nat → Int32} {w23 : Int64} {g24 : Nat → Int64} {f25 : Nat → Nat → Int32} {v27 : Nat → Int32} {f28 : Nat → Nat → Int32} {w29 : Int64} {g30 : Nat → Int64} (h0 : ((v2 18) ≤ l1_16)) (h1 : gsY_X11_begin_1 NF v16 f16 w16 g16 = (v21, f22, w23, g24)) (h2 : f25 = upd2 f22 24 (upd (f22 24) (38 : Int32).toNatClampNeg (v21 23))) (h3 : gsY_X11_keepAir_1 NF v21 f25 w23 g24 = (v27, f28, w29, g30)) : gsY_X11_regiment_1_L16 NF v2 (n16 + 1) l1_16 v16 f16 w16 g16 = gsY_X11_regiment_1_L31 NF v2 (4294967296 + NF) 0 (upd (upd (upd (upd v27 35 0) 36 0) 38 0) 37 0) f28 w29 g30 := by
  subst h2
  simp only [gsY_X11_regiment_1_L16, if_pos h0, h1, h3]
theorem gsY_X11_regiment_1_q3 {NF : Nat} {v2 : Nat → Int32} {n16 : Nat} {l1_16 : Int32} {v16 : Nat → Int32} {f16 : Nat → Nat → Int32} {w16 : Int64} {g16 : Nat → Int64} {t39 : Int32} {f40 : Nat → Nat → Int32} {t41 : Int32} {f42 : Nat → Nat → Int32} {t43 : Int32} {f44 : Nat → Nat → Int32} {t45 : Int32} {f46 : Nat → Nat → Int32} {t47 : Int32} (h0 : ¬ ((v2 18) ≤ l1_16)) (h1 : t39 = f16 12 (l1_16).toNatClampNeg) (h2 : f40 = upd2 f16 19 (upd (f16 19) l1_16.toNatClampNeg t39)) (h3 : t41 = f40 13 (l1_16).toNatClampNeg) (h4 : f42 = upd2 f40 20 (upd (f40 20) l1_16.toNatClampNeg t41)) (h5 : t43 = f42 14 (l1_16).toNatClampNeg) (h6 : f44 = upd2 f42 21 (upd (f42 21) l1_16.toNatClampNeg t43)) (h7 : t45 = f44 15 (l1_16).toNatClampNeg) (h8 : f46 = upd2 f44 22 (upd (f44 22) l1_16.toNatClampNeg t45)) (h9 : t47 = l1_16 + 1) : gsY_X11_regiment_1_L16 NF v2 (n16 + 1) l1_16 v16 f16 w16 g16 = gsY_X11_regiment_1_L16 NF v2 n16 t47 v16 f46 w16 g16 := by
  subst h1 h2 h3 h4 h5 h6 h7 h8 h9
  simp only [gsY_X11_regiment_1_L16, if_neg h0]
theorem gsY_X11_regiment_1_q0 {NF : Nat} {v2 : Nat → Int32} {n31 : Nat} {l1_31 : Int32} {v31 : Nat → Int32} {f31 : Nat → Nat → Int32} {w31 : Int64} {g31 : Nat → Int64} (h0 : (3 ≤ l1_31)) : gsY_X11_regiment_1_L31 NF v2 (n31 + 1) l1_31 v31 f31 w31 g31 = ((v2 17), v31, f31, w31, g31) := by
  simp only [gsY_X11_regiment_1_L31, if_pos h0]
theorem gsY_X11_regiment_1_q1 {NF : Nat} {v2 : Nat → Int32} {n31 : Nat} {l1_31 : Int32} {v31 : Nat → Int32} {f31 : Nat → Nat → Int32} {w31 : Int64} {g31 : Nat → Int64} {f33 : Nat → Nat → Int32} {t34 : Int32} (h0 : ¬ (3 ≤ l1_31)) (h1 : f33 = upd2 f31 36 (upd (f31 36) l1_31.toNatClampNeg (vp_nar .boolean 0))) (h2 : t34 = l1_31 + 1) : gsY_X11_regiment_1_L31 NF v2 (n31 + 1) l1_31 v31 f31 w31 g31 = gsY_X11_regiment_1_L31 NF v2 n31 t34 v31 f33 w31 g31 := by
  subst h1 h2
  simp only [gsY_X11_regiment_1_L31, if_neg h0]
theorem gsY_X11_regiment_1_q15 {NF : Nat} {v2 : Nat → Int32} {n66 : Nat} {l1_66 : Int32} {v66 : Nat → Int32} {f66 : Nat → Nat → Int32} {w66 : Int64} {g66 : Nat → Int64} (h0 : ((v2 8) ≤ l1_66)) : gsY_X11_regiment_1_L66 NF v2 (n66 + 1) l1_66 v66 f66 w66 g66 = gsY_X11_regiment_1_L70 NF v2 (4294967296 + NF) 0 v66 f66 w66 g66 := by
  simp only [gsY_X11_regiment_1_L66, if_pos h0]
theorem gsY_X11_regiment_1_q16 {NF : Nat} {v2 : Nat → Int32} {n66 : Nat} {l1_66 : Int32} {v66 : Nat → Int32} {f66 : Nat → Nat → Int32} {w66 : Int64} {g66 : Nat → Int64} {t119 : Int32} {f120 : Nat → Nat → Int32} {t121 : Int32} {f122 : Nat → Nat → Int32} {t123 : Int32} (h0 : ¬ ((v2 8) ≤ l1_66)) (h1 : t119 = f66 2 (l1_66).toNatClampNeg) (h2 : f120 = upd2 f66 4 (upd (f66 4) l1_66.toNatClampNeg t119)) (h3 : t121 = f120 3 (l1_66).toNatClampNeg) (h4 : f122 = upd2 f120 5 (upd (f120 5) l1_66.toNatClampNeg t121)) (h5 : t123 = l1_66 + 1) : gsY_X11_regiment_1_L66 NF v2 (n66 + 1) l1_66 v66 f66 w66 g66 = gsY_X11_regiment_1_L66 NF v2 n66 t123 v66 f122 w66 g66 := by
  subst h1 h2 h3 h4 h5
  simp only [gsY_X11_regiment_1_L66, if_neg h0]
theorem gsY_X11_regiment_1_q13 {NF : Nat} {v2 : Nat → Int32} {n70 : Nat} {l1_70 : Int32} {v70 : Nat → Int32} {f70 : Nat → Nat → Int32} {w70 : Int64} {g70 : Nat → Int64} (h0 : ((v2 17) ≤ l1_70)) : gsY_X11_regiment_1_L70 NF v2 (n70 + 1) l1_70 v70 f70 w70 g70 = gsY_X11_regiment_1_L74 NF v2 (4294967296 + NF) 0 v70 f70 w70 g70 := by
  simp only [gsY_X11_regiment_1_L70, if_pos h0]
theorem gsY_X11_regiment_1_q14 {NF : Nat} {v2 : Nat → Int32} {n70 : Nat} {l1_70 : Int32} {v70 : Nat → Int32} {f70 : Nat → Nat → Int32} {w70 : Int64} {g70 : Nat → Int64} {t109 : Int32} {f110 : Nat → Nat → Int32} {t111 : Int32} {f112 : Nat → Nat → Int32} {t113 : Int32} {f114 : Nat → Nat → Int32} {t115 : Int32} (h0 : ¬ ((v2 17) ≤ l1_70)) (h1 : t109 = f70 9 (l1_70).toNatClampNeg) (h2 : f110 = upd2 f70 16 (upd (f70 16) l1_70.toNatClampNeg t109)) (h3 : t111 = f110 10 (l1_70).toNatClampNeg) (h4 : f112 = upd2 f110 17 (upd (f110 17) l1_70.toNatClampNeg t111)) (h5 : t113 = f112 11 (l1_70).toNatClampNeg) (h6 : f114 = upd2 f112 18 (upd (f112 18) l1_70.toNatClampNeg t113)) (h7 : t115 = l1_70 + 1) : gsY_X11_regiment_1_L70 NF v2 (n70 + 1) l1_70 v70 f70 w70 g70 = gsY_X11_regiment_1_L70 NF v2 n70 t115 v70 f114 w70 g70 := by
  subst h1 h2 h3 h4 h5 h6 h7
  simp only [gsY_X11_regiment_1_L70, if_neg h0]
theorem gsY_X11_regiment_1_q11 {NF : Nat} {v2 : Nat → Int32} {n74 : Nat} {l1_74 : Int32} {v74 : Nat → Int32} {f74 : Nat → Nat → Int32} {w74 : Int64} {g74 : Nat → Int64} {v79 : Nat → Int32} {f80 : Nat → Nat → Int32} {w81 : Int64} {g82 : Nat → Int64} {f83 : Nat → Nat → Int32} {v85 : Nat → Int32} {f86 : Nat → Nat → Int32} {w87 : Int64} {g88 : Nat → Int64} (h0 : ((v2 18) ≤ l1_74)) (h1 : gsY_X11_begin_1 NF v74 f74 w74 g74 = (v79, f80, w81, g82)) (h2 : f83 = upd2 f80 24 (upd (f80 24) (38 : Int32).toNatClampNeg (v79 23))) (h3 : gsY_X11_keepAir_1 NF v79 f83 w81 g82 = (v85, f86, w87, g88)) : gsY_X11_regiment_1_L74 NF v2 (n74 + 1) l1_74 v74 f74 w74 g74 = gsY_X11_regiment_1_L89 NF v2 (4294967296 + NF) 0 (upd (upd (upd (upd v85 35 0) 36 0) 38 0) 37 0) f86 w87 g88 := by
  subst h2
  simp only [gsY_X11_regiment_1_L74, if_pos h0, h1, h3]
theorem gsY_X11_regiment_1_q12 {NF : Nat} {v2 : Nat → Int32} {n74 : Nat} {l1_74 : Int32} {v74 : Nat → Int32} {f74 : Nat → Nat → Int32} {w74 : Int64} {g74 : Nat → Int64} {t97 : Int32} {f98 : Nat → Nat → Int32} {t99 : Int32} {f100 : Nat → Nat → Int32} {t101 : Int32} {f102 : Nat → Nat → Int32} {t103 : Int32} {f104 : Nat → Nat → Int32} {t105 : Int32} (h0 : ¬ ((v2 18) ≤ l1_74)) (h1 : t97 = f74 12 (l1_74).toNatClampNeg) (h2 : f98 = upd2 f74 19 (upd (f74 19) l1_74.toNatClampNeg t97)) (h3 : t99 = f98 13 (l1_74).toNatClampNeg) (h4 : f100 = upd2 f98 20 (upd (f98 20) l1_74.toNatClampNeg t99)) (h5 : t101 = f100 14 (l1_74).toNatClampNeg) (h6 : f102 = upd2 f100 21 (upd (f100 21) l1_74.toNatClampNeg t101)) (h7 : t103 = f102 15 (l1_74).toNatClampNeg) (h8 : f104 = upd2 f102 22 (upd (f102 22) l1_74.toNatClampNeg t103)) (h9 : t105 = l1_74 + 1) : gsY_X11_regiment_1_L74 NF v2 (n74 + 1) l1_74 v74 f74 w74 g74 = gsY_X11_regiment_1_L74 NF v2 n74 t105 v74 f104 w74 g74 := by
  subst h1 h2 h3 h4 h5 h6 h7 h8 h9
  simp only [gsY_X11_regiment_1_L74, if_neg h0]
theorem gsY_X11_regiment_1_q9 {NF : Nat} {v2 : Nat → Int32} {n89 : Nat} {l1_89 : Int32} {v89 : Nat → Int32} {f89 : Nat → Nat → Int32} {w89 : Int64} {g89 : Nat → Int64} (h0 : (3 ≤ l1_89)) : gsY_X11_regiment_1_L89 NF v2 (n89 + 1) l1_89 v89 f89 w89 g89 = ((v2 17), v89, f89, w89, g89) := by
  simp only [gsY_X11_regiment_1_L89, if_pos h0]
theorem gsY_X11_regiment_1_q10 {NF : Nat} {v2 : Nat → Int32} {n89 : Nat} {l1_89 : Int32} {v89 : Nat → Int32} {f89 : Nat → Nat → Int32} {w89 : Int64} {g89 : Nat → Int64} {f91 : Nat → Nat → Int32} {t92 : Int32} (h0 : ¬ (3 ≤ l1_89)) (h1 : f91 = upd2 f89 36 (upd (f89 36) l1_89.toNatClampNeg (vp_nar .boolean 0))) (h2 : t92 = l1_89 + 1) : gsY_X11_regiment_1_L89 NF v2 (n89 + 1) l1_89 v89 f89 w89 g89 = gsY_X11_regiment_1_L89 NF v2 n89 t92 v89 f91 w89 g89 := by
  subst h1 h2
  simp only [gsY_X11_regiment_1_L89, if_neg h0]
