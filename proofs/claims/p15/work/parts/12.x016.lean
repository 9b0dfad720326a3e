def gsX_X1_passDay_2_L21 (NF : Nat) (v : Nat → Int32) : Nat → (Int32) → (Int32) → (Nat → Int32) → (Nat → Nat → Int32) → Int32 × (Nat → Int32) × (Nat → Nat → Int32)
  | 0, _, _, _, _ => (0, (fun _ => 0), (fun _ _ => 0))
  | n21 + 1, l3_21, l4_21, v21, f21 =>
    if (v 31) ≤ l4_21 then
      (l3_21, v21, f21)
    else
      let r25 : Int32 := gsX_X1_wears_2 NF l4_21 v21 f21
      if r25 = (-1) then
        let t28 : Int32 := l4_21 + 1
        gsX_X1_passDay_2_L21 NF v n21 l3_21 t28 v21 f21
      else
        let r30 : Int32 := gsX_X1_wears_2 NF l4_21 v21 f21
        match gsX_X1_fits_2 NF l4_21 r30 v21 f21 with
        | (r32, v34, f35) =>
          if r32 = 1 then
            let t37 : Int32 := l4_21 + 1
            gsX_X1_passDay_2_L21 NF v n21 l3_21 t37 v34 f35
          else
            match gsX_X1_setWears_2 NF l4_21 (-1) v34 f35 with
            | (v40, f41) =>
              let t42 : Int32 := 1 <<< (l4_21 &&& 31)
              let t43 : Int32 := l3_21 ||| t42
              let t44 : Int32 := l4_21 + 1
              gsX_X1_passDay_2_L21 NF v n21 t43 t44 v40 f41
def gsX_X1_passDay_2_L15 (NF : Nat) (v : Nat → Int32) : Nat → (Int32) → (Nat → Int32) → (Nat → Nat → Int32) → Int32 × (Nat → Int32) × (Nat → Nat → Int32)
  | 0, _, _, _ => (0, (fun _ => 0), (fun _ _ => 0))
  | n15 + 1, l3_15, v15, f15 =>
    if (v 31) ≤ l3_15 then
      let t18 : Int32 := f15 18 (42 : Int32).toNatClampNeg
      let t19 : Int32 := t18 + 1
      let f20 : Nat → Nat → Int32 := upd2 f15 18 (upd (f15 18) (42 : Int32).toNatClampNeg t19)
      gsX_X1_passDay_2_L21 NF v (4294967296 + NF) 0 0 v15 f20
    else
      let r47 : Int32 := gsX_X1_wears_2 NF l3_15 v15 f15
      match gsX_X1_weather_2 NF r47 0 v15 f15 with
      | (v50, f51) =>
        let t52 : Int32 := l3_15 + 1
        gsX_X1_passDay_2_L15 NF v n15 t52 v50 f51
def gsX_X1_passDay_2_L62 (NF : Nat) (v : Nat → Int32) : Nat → (Int32) → (Int32) → (Nat → Int32) → (Nat → Nat → Int32) → Int32 × (Nat → Int32) × (Nat → Nat → Int32)
  | 0, _, _, _, _ => (0, (fun _ => 0), (fun _ _ => 0))
  | n62 + 1, l3_62, l4_62, v62, f62 =>
    if (v 31) ≤ l4_62 then
      (l3_62, v62, f62)
    else
      let r66 : Int32 := gsX_X1_wears_2 NF l4_62 v62 f62
      if r66 = (-1) then
        let t69 : Int32 := l4_62 + 1
        gsX_X1_passDay_2_L62 NF v n62 l3_62 t69 v62 f62
      else
        let r71 : Int32 := gsX_X1_wears_2 NF l4_62 v62 f62
        match gsX_X1_fits_2 NF l4_62 r71 v62 f62 with
        | (r73, v75, f76) =>
          if r73 = 1 then
            let t78 : Int32 := l4_62 + 1
            gsX_X1_passDay_2_L62 NF v n62 l3_62 t78 v75 f76
          else
            match gsX_X1_setWears_2 NF l4_62 (-1) v75 f76 with
            | (v81, f82) =>
              let t83 : Int32 := 1 <<< (l4_62 &&& 31)
              let t84 : Int32 := l3_62 ||| t83
              let t85 : Int32 := l4_62 + 1
              gsX_X1_passDay_2_L62 NF v n62 t84 t85 v81 f82
def gsX_X1_passDay_2_L56 (NF : Nat) (v : Nat → Int32) : Nat → (Int32) → (Nat → Int32) → (Nat → Nat → Int32) → Int32 × (Nat → Int32) × (Nat → Nat → Int32)
  | 0, _, _, _ => (0, (fun _ => 0), (fun _ _ => 0))
  | n56 + 1, l3_56, v56, f56 =>
    if (v 31) ≤ l3_56 then
      let t59 : Int32 := f56 18 (42 : Int32).toNatClampNeg
      let t60 : Int32 := t59 + 1
      let f61 : Nat → Nat → Int32 := upd2 f56 18 (upd (f56 18) (42 : Int32).toNatClampNeg t60)
      gsX_X1_passDay_2_L62 NF v (4294967296 + NF) 0 0 v56 f61
    else
      let r88 : Int32 := gsX_X1_wears_2 NF l3_56 v56 f56
      match gsX_X1_weather_2 NF r88 1 v56 f56 with
      | (v91, f92) =>
        let t93 : Int32 := l3_56 + 1
        gsX_X1_passDay_2_L56 NF v n56 t93 v91 f92
def gsX_X1_passDay_2_L1 (NF : Nat) (p1 : Int32) (v : Nat → Int32) : Nat → (Int32) → (Nat → Int32) → (Nat → Nat → Int32) → Int32 × (Nat → Int32) × (Nat → Nat → Int32)
  | 0, _, _, _ => (0, (fun _ => 0), (fun _ _ => 0))
  | n1 + 1, l2_1, v1, f1 =>
    if (v 31) ≤ l2_1 then
      let t5 : Int32 := f1 18 (43 : Int32).toNatClampNeg
      let t6 : Int32 := t5 * 137
      let t7 : Int32 := t6 + 71
      let t8 : Int32 := t7 - t7 / 1000 * 1000
      let f9 : Nat → Nat → Int32 := upd2 f1 18 (upd (f1 18) (43 : Int32).toNatClampNeg t8)
      let t10 : Int32 := f9 18 (43 : Int32).toNatClampNeg
      let t11 : Int32 := t10 - t10 / 100 * 100
      if p1 ≤ t11 then
        gsX_X1_passDay_2_L15 NF v (4294967296 + NF) 0 v1 f9
      else
        gsX_X1_passDay_2_L56 NF v (4294967296 + NF) 0 v1 f9
    else
      let t97 : Int32 := f1 18 (l2_1).toNatClampNeg
      let r98 : Int32 := gsX_X7_manPart_1 NF 2 l2_1 v1 f1
      let t100 : Int32 := t97 + r98
      let t101 : Int32 := if t100 < (99 : Int32) then t100 else (99 : Int32)
      let f102 : Nat → Nat → Int32 := upd2 f1 18 (upd (f1 18) l2_1.toNatClampNeg t101)
      let t103 : Int32 := l2_1 + 1
      gsX_X1_passDay_2_L1 NF p1 v n1 t103 v1 f102
def gsX_X1_passDay_2 (NF : Nat) (p1 : Int32) (v : Nat → Int32) (f : Nat → Nat → Int32) : Int32 × (Nat → Int32) × (Nat → Nat → Int32) :=
  gsX_X1_passDay_2_L1 NF p1 v (4294967296 + NF) 0 v f
theorem gsX_X1_passDay_2_q15 {NF : Nat} {p1 : Int32} {v : Nat → Int32} {f : Nat → Nat → Int32}  : gsX_X1_passDay_2 NF p1 v f = gsX_X1_passDay_2_L1 NF p1 v (4294967296 + NF) 0 v f := by
  simp only [gsX_X1_passDay_2]
theorem gsX_X1_passDay_2_q6 {NF : Nat} {p1 : Int32} {v : Nat → Int32} {n1 : Nat} {l2_1 : Int32} {v1 : Nat → Int32} {f1 : Nat → Nat → Int32} {t5 : Int32} {t6 : Int32} {t7 : Int32} {t8 : Int32} {f9 : Nat → Nat → Int32} {t10 : Int32} {t11 : Int32} (h0 : ((v 31) ≤ l2_1)) (h1 : t5 = f1 18 (43 : Int32).toNatClampNeg) (h2 : t6 = t5 * 137) (h3 : t7 = t6 + 71) (h4 : t8 = t7 - t7 / 1000 * 1000) (h5 : f9 = upd2 f1 18 (upd (f1 18) (43 : Int32).toNatClampNeg t8)) (h6 : t10 = f9 18 (43 : Int32).toNatClampNeg) (h7 : t11 = t10 - t10 / 100 * 100) (h8 : (p1 ≤ t11)) : gsX_X1_passDay_2_L1 NF p1 v (n1 + 1) l2_1 v1 f1 = gsX_X1_passDay_2_L15 NF v (4294967296 + NF) 0 v1 f9 := by
  subst h1 h2 h3 h4 h5 h6 h7
  simp only [gsX_X1_passDay_2_L1, if_pos h0, if_pos h8]
theorem gsX_X1_passDay_2_q13 {NF : Nat} {p1 : Int32} {v : Nat → Int32} {n1 : Nat} {l2_1 : Int32} {v1 : Nat → Int32} {f1 : Nat → Nat → Int32} {t5 : Int32} {t6 : Int32} {t7 : Int32} {t8 : Int32} {f9 : Nat → Nat → Int32} {t10 : Int32} {t11 : Int32} (h0 : ((v 31) ≤ l2_1)) (h1 : t5 = f1 18 (43 : Int32).toNatClampNeg) (h2 : t6 = t5 * 137) (h3 : t7 = t6 + 71) (h4 : t8 = t7 - t7 / 1000 * 1000) (h5 : f9 = upd2 f1 18 (upd (f1 18) (43 : Int32).toNatClampNeg t8)) (h6 : t10 = f9 18 (43 : Int32).toNatClampNeg) (h7 : t11 = t10 - t10 / 100 * 100) (h8 : ¬ (p1 ≤ t11)) : gsX_X1_passDay_2_L1 NF p1 v (n1 + 1) l2_1 v1 f1 = gsX_X1_passDay_2_L56 NF v (4294967296 + NF) 0 v1 f9 := by
  subst h1 h2 h3 h4 h5 h6 h7
  simp only [gsX_X1_passDay_2_L1, if_pos h0, if_neg h8]
theorem gsX_X1_passDay_2_q14 {NF : Nat} {p1 : Int32} {v : Nat → Int32} {n1 : Nat} {l2_1 : Int32} {v1 : Nat → Int32} {f1 : Nat → Nat → Int32} {t97 : Int32} {r98 : Int32} {t100 : Int32} {t101 : Int32} {f102 : Nat → Nat → Int32} {t103 : Int32} (h0 : ¬ ((v 31) ≤ l2_1)) (h1 : t97 = f1 18 (l2_1).toNatClampNeg) (h2 : r98 = gsX_X7_manPart_1 NF 2 l2_1 v1 f1) (h3 : t100 = t97 + r98) (h4 : t101 = if t100 < (99 : Int32) then t100 else (99 : Int32)) (h5 : f102 = upd2 f1 18 (upd (f1 18) l2_1.toNatClampNeg t101)) (h6 : t103 = l2_1 + 1) : gsX_X1_passDay_2_L1 NF p1 v (n1 + 1) l2_1 v1 f1 = gsX_X1_passDay_2_L1 NF p1 v n1 t103 v1 f102 := by
  subst h1 h2 h3 h4 h5 h6
  simp only [gsX_X1_passDay_2_L1, if_neg h0]
theorem gsX_X1_passDay_2_q4 {NF : Nat} {v : Nat → Int32} {n15 : Nat} {l3_15 : Int32} {v15 : Nat → Int32} {f15 : Nat → Nat → Int32} {t18 : Int32} {t19 : Int32} {f20 : Nat → Nat → Int32} (h0 : ((v 31) ≤ l3_15)) (h1 : t18 = f15 18 (42 : Int32).toNatClampNeg) (h2 : t19 = t18 + 1) (h3 : f20 = upd2 f15 18 (upd (f15 18) (42 : Int32).toNatClampNeg t19)) : gsX_X1_passDay_2_L15 NF v (n15 + 1) l3_15 v15 f15 = gsX_X1_passDay_2_L21 NF v (4294967296 + NF) 0 0 v15 f20 := by
  subst h1 h2 h3
  simp only [gsX_X1_passDay_2_L15, if_pos h0]
theorem gsX_X1_passDay_2_q5 {NF : Nat} {v : Nat → Int32} {n15 : Nat} {l3_15 : Int32} {v15 : Nat → Int32} {f15 : Nat → Nat → Int32} {r47 : Int32} {v50 : Nat → Int32} {f51 : Nat → Nat → Int32} {t52 : Int32} (h0 : ¬ ((v 31) ≤ l3_15)) (h1 : r47 = gsX_X1_wears_2 NF l3_15 v15 f15) (h2 : gsX_X1_weather_2 NF r47 0 v15 f15 = (v50, f51)) (h3 : t52 = l3_15 + 1) : gsX_X1_passDay_2_L15 NF v (n15 + 1) l3_15 v15 f15 = gsX_X1_passDay_2_L15 NF v n15 t52 v50 f51 := by
  subst h1 h3
  simp only [gsX_X1_passDay_2_L15, if_neg h0, h2]
theorem gsX_X1_passDay_2_q0 {NF : Nat} {v : Nat → Int32} {n21 : Nat} {l3_21 : Int32} {l4_21 : Int32} {v21 : Nat → Int32} {f21 : Nat → Nat → Int32} (h0 : ((v 31) ≤ l4_21)) : gsX_X1_passDay_2_L21 NF v (n21 + 1) l3_21 l4_21 v21 f21 = (l3_21, v21, f21) := by
  simp only [gsX_X1_passDay_2_L21, if_pos h0]
theorem gsX_X1_passDay_2_q1 {NF : Nat} {v : Nat → Int32} {n21 : Nat} {l3_21 : Int32} {l4_21 : Int32} {v21 : Nat → Int32} {f21 : Nat → Nat → Int32} {r25 : Int32} {t28 : Int32} (h0 : ¬ ((v 31) ≤ l4_21)) (h1 : r25 = gsX_X1_wears_2 NF l4_21 v21 f21) (h2 : (r25 = (-1))) (h3 : t28 = l4_21 + 1) : gsX_X1_passDay_2_L21 NF v (n21 + 1) l3_21 l4_21 v21 f21 = gsX_X1_passDay_2_L21 NF v n21 l3_21 t28 v21 f21 := by
  subst h1 h3
  simp only [gsX_X1_passDay_2_L21, if_neg h0, if_pos h2]
theorem gsX_X1_passDay_2_q2 {NF : Nat} {v : Nat → Int32} {n21 : Nat} {l3_21 : Int32} {l4_21 : Int32} {v21 : Nat → Int32} {f21 : Nat → Nat → Int32} {r25 : Int32} {r30 : Int32} {v34 : Nat → Int32} {f35 : Nat → Nat → Int32} {t37 : Int32} (h0 : ¬ ((v 31) ≤ l4_21)) (h1 : r25 = gsX_X1_wears_2 NF l4_21 v21 f21) (h2 : ¬ (r25 = (-1))) (h3 : r30 = gsX_X1_wears_2 NF l4_21 v21 f21) (h4 : gsX_X1_fits_2 NF l4_21 r30 v21 f21 = (1, v34, f35)) (h6 : t37 = l4_21 + 1) : gsX_X1_passDay_2_L21 NF v (n21 + 1) l3_21 l4_21 v21 f21 = gsX_X1_passDay_2_L21 NF v n21 l3_21 t37 v34 f35 := by
  subst h1 h3 h6
  simp only [gsX_X1_passDay_2_L21, if_neg h0, if_neg h2, h4, ite11, ite01, if_true, if_false]
theorem gsX_X1_passDay_2_q3 {NF : Nat} {v : Nat → Int32} {n21 : Nat} {l3_21 : Int32} {l4_21 : Int32} {v21 : Nat → Int32} {f21 : Nat → Nat → Int32} {r25 : Int32} {r30 : Int32} {v34 : Nat → Int32} {f35 : Nat → Nat → Int32} {v40 : Nat → Int32} {f41 : Nat → Nat → Int32} {t42 : Int32} {t43 : Int32} {t44 : Int32} (h0 : ¬ ((v 31) ≤ l4_21)) (h1 : r25 = gsX_X1_wears_2 NF l4_21 v21 f21) (h2 : ¬ (r25 = (-1))) (h3 : r30 = gsX_X1_wears_2 NF l4_21 v21 f21) (h4 : gsX_X1_fits_2 NF l4_21 r30 v21 f21 = (0, v34, f35)) (h6 : gsX_X1_setWears_2 NF l4_21 (-1) v34 f35 = (v40, f41)) (h7 : t42 = 1 <<< (l4_21 &&& 31)) (h8 : t43 = l3_21 ||| t42) (h9 : t44 = l4_21 + 1) : gsX_X1_passDay_2_L21 NF v (n21 + 1) l3_21 l4_21 v21 f21 = gsX_X1_passDay_2_L21 NF v n21 t43 t44 v40 f41 := by
  subst h1 h3 h7 h8 h9
  simp only [gsX_X1_passDay_2_L21, if_neg h0, if_neg h2, h4, h6, ite11, ite01, if_true, if_false]
theorem gsX_X1_passDay_2_q11 {NF : Nat} {v : Nat → Int32} {n56 : Nat} {l3_56 : Int32} {v56 : Nat → Int32} {f56 : Nat → Nat → Int32} {t59 : Int32} {t60 : Int32} {f61 : Nat → Nat → Int32} (h0 : ((v 31) ≤ l3_56)) (h1 : t59 = f56 18 (42 : Int32).toNatClampNeg) (h2 : t60 = t59 + 1) (h3 : f61 = upd2 f56 18 (upd (f56 18) (42 : Int32).toNatClampNeg t60)) : gsX_X1_passDay_2_L56 NF v (n56 + 1) l3_56 v56 f56 = gsX_X1_passDay_2_L62 NF v (4294967296 + NF) 0 0 v56 f61 := by
  subst h1 h2 h3
  simp only [gsX_X1_passDay_2_L56, if_pos h0]
theorem gsX_X1_passDay_2_q12 {NF : Nat} {v : Nat → Int32} {n56 : Nat} {l3_56 : Int32} {v56 : Nat → Int32} {f56 : Nat → Nat → Int32} {r88 : Int32} {v91 : Nat → Int32} {f92 : Nat → Nat → Int32} {t93 : Int32} (h0 : ¬ ((v 31) ≤ l3_56)) (h1 : r88 = gsX_X1_wears_2 NF l3_56 v56 f56) (h2 : gsX_X1_weather_2 NF r88 1 v56 f56 = (v91, f92)) (h3 : t93 = l3_56 + 1) : gsX_X1_passDay_2_L56 NF v (n56 + 1) l3_56 v56 f56 = gsX_X1_passDay_2_L56 NF v n56 t93 v91 f92 := by
  subst h1 h3
  simp only [gsX_X1_passDay_2_L56, if_neg h0, h2]
theorem gsX_X1_passDay_2_q7 {NF : Nat} {v : Nat → Int32} {n62 : Nat} {l3_62 : Int32} {l4_62 : Int32} {v62 : Nat → Int32} {f62 : Nat → Nat → Int32} (h0 : ((v 31) ≤ l4_62)) : gsX_X1_passDay_2_L62 NF v (n62 + 1) l3_62 l4_62 v62 f62 = (l3_62, v62, f62) := by
  simp only [gsX_X1_passDay_2_L62, if_pos h0]
theorem gsX_X1_passDay_2_q8 {NF : Nat} {v : Nat → Int32} {n62 : Nat} {l3_62 : Int32} {l4_62 : Int32} {v62 : Nat → Int32} {f62 : Nat → Nat → Int32} {r66 : Int32} {t69 : Int32} (h0 : ¬ ((v 31) ≤ l4_62)) (h1 : r66 = gsX_X1_wears_2 NF l4_62 v62 f62) (h2 : (r66 = (-1))) (h3 : t69 = l4_62 + 1) : gsX_X1_passDay_2_L62 NF v (n62 + 1) l3_62 l4_62 v62 f62 = gsX_X1_passDay_2_L62 NF v n62 l3_62 t69 v62 f62 := by
  subst h1 h3
  simp only [gsX_X1_passDay_2_L62, if_neg h0, if_pos h2]
theorem gsX_X1_passDay_2_q9 {NF : Nat} {v : Nat → Int32} {n62 : Nat} {l3_62 : Int32} {l4_62 : Int32} {v62 : Nat → Int32} {f62 : Nat → Nat → Int32} {r66 : Int32} {r71 : Int32} {v75 : Nat → Int32} {f76 : Nat → Nat → Int32} {t78 : Int32} (h0 : ¬ ((v 31) ≤ l4_62)) (h1 : r66 = gsX_X1_wears_2 NF l4_62 v62 f62) (h2 : ¬ (r66 = (-1))) (h3 : r71 = gsX_X1_wears_2 NF l4_62 v62 f62) (h4 : gsX_X1_fits_2 NF l4_62 r71 v62 f62 = (1, v75, f76)) (h6 : t78 = l4_62 + 1) : gsX_X1_passDay_2_L62 NF v (n62 + 1) l3_62 l4_62 v62 f62 = gsX_X1_passDay_2_L62 NF v n62 l3_62 t78 v75 f76 := by
  subst h1 h3 h6
  simp only [gsX_X1_passDay_2_L62, if_neg h0, if_neg h2, h4, ite11, ite01, if_true, if_false]
theorem gsX_X1_passDay_2_q10 {NF : Nat} {v : Nat → Int32} {n62 : Nat} {l3_62 : Int32} {l4_62 : Int32} {v62 : Nat → Int32} {f62 : Nat → Nat → Int32} {r66 : Int32} {r71 : Int32} {v75 : Nat → Int32} {f76 : Nat → Nat → Int32} {v81 : Nat → Int32} {f82 : Nat → Nat → Int32} {t83 : Int32} {t84 : Int32} {t85 : Int32} (h0 : ¬ ((v 31) ≤ l4_62)) (h1 : r66 = gsX_X1_wears_2 NF l4_62 v62 f62) (h2 : ¬ (r66 = (-1))) (h3 : r71 = gsX_X1_wears_2 NF l4_62 v62 f62) (h4 : gsX_X1_fits_2 NF l4_62 r71 v62 f62 = (0, v75, f76)) (h6 : gsX_X1_setWears_2 NF l4_62 (-1) v75 f76 = (v81, f82)) (h7 : t83 = 1 <<< (l4_62 &&& 31)) (h8 : t84 = l3_62 ||| t83) (h9 : t85 = l4_62 + 1) : gsX_X1_passDay_2_L62 NF v (n62 + 1) l3_62 l4_62 v62 f62 = gsX_X1_passDay_2_L62 NF v n62 t84 t85 v81 f82 := by
  subst h1 h3 h7 h8 h9
  simp only [gsX_X1_passDay_2_L62, if_neg h0, if_neg h2, h4, h6, ite11, ite01, if_true, if_false]
set_option maxHeartbeats 4000000 in
set_option maxRecDepth 100000 in
theorem sX_X1_passDay_2 (NF : Nat) (l : Launch) (dC : Nat → ClassId) (dI : Nat → Nat → Nat) (cy : Nat → ClassId) (x0 : Nat) (x : Nat → Nat) (p1 : Int32) (v : Nat → Int32) (f : Nat → Nat → Int32) (hIv : XI v)  : ctI l (dC, dI) cy yX1_passDay cX1_passDay 5 .int 5 155 0 0 ((Nat → Int32) × (Nat → Nat → Int32)) [.ref (x 27), .int p1] (XW cy x0 x v f) (fun r u => gsX_X1_passDay_2 NF p1 v f = (r, u) ∧ KV [] u.1 v ∧ KF [13, 14, 18] u.2 f ∧ XI u.1 ∧ u.1 0 = v 0 ∧ u.1 1 = v 1 ∧ u.1 7 = v 7 ∧ u.1 8 = v 8 ∧ u.1 9 = v 9 ∧ u.1 10 = v 10 ∧ u.1 31 = v 31 ∧ u.1 32 = v 32) (fun u => XW cy x0 x u.1 u.2) := by
  refine ctI_of (by decide) (Nat.le_of_ble_eq_true rfl) (fun p e s m below meth c A ls Q hx hb hml hts hown hE hP hD hA hl ret => ?_)
  have hM_v : KV [] v v := fun _ _ => rfl
  have hA_f : KF [13, 14, 18] f f := fun _ _ => rfl
  have hown : s.vm.findClass RX1 = some m.cls := hown
  have hS : va_S A s.heap s.heap [] := va_S.rf
  have hl : lv_has ls 5 [(0, .ref (x 27)), (1, .int p1)] := hl
  refine lv_iconst (v := 0) hx hb dX1_passDay_0 (by decide) ?_
  refine lv_istore_n (lv' := [(2, .int 0), (0, .ref (x 27)), (1, .int p1)]) hx hb dX1_passDay_1 rfl hl (by decide) rfl (fun ls hl => ?_)
  have lp1 : ∀ (n1 : Nat) (l2_1 : Int32) (v1 : Nat → Int32) (f1 : Nat → Nat → Int32), XI v1 → v1 0 = (v 0) → v1 1 = (v 1) → v1 7 = (v 7) → v1 8 = (v 8) → v1 9 = (v 9) → v1 10 = (v 10) → v1 31 = (v 31) → v1 32 = (v 32) → gsX_X1_passDay_2_L1 NF p1 v n1 l2_1 v1 f1 = (gsX_X1_passDay_2 NF p1 v f) → ((0 : Int) ≤ l2_1.toInt ∧ l2_1.toInt ≤ 2147483647) → KV [] v1 v → KF [13, 14, 18] f1 f → (2147483647 - l2_1.toInt).toNat < n1 → ∀ (H : Heap) (locs : List Loc) (ls : Array Slot), va_P (dC, dI) vwCl (XW cy x0 x v1 f1) H → va_D A (XW cy x0 x v1 f1) → va_S A s.heap H locs → lv_has ls 5 [(2, .int l2_1), (0, .ref (x 27)), (1, .int p1)] → W p l e { frames := 5, cells := 0, slots := 0, locals := 155 } s m ([.ref (x 27), .int p1] : List Value).toArray below meth c H locs 0 0 Q (F0 m 2 ls []) := by
    intro n1
    induction n1 with
    | zero => intro l2_1 v1 f1 hIv1 hq0_v1 hq1_v1 hq7_v1 hq8_v1 hq9_v1 hq10_v1 hq31_v1 hq32_v1 hT1 hr2_1 hM_v1 hA_f1 hm; exact absurd hm (Nat.not_lt_zero _)
    | succ n1 ih1 =>
      intro l2_1 v1 f1 hIv1 hq0_v1 hq1_v1 hq7_v1 hq8_v1 hq9_v1 hq10_v1 hq31_v1 hq32_v1 hT1 hr2_1 hM_v1 hA_f1 hm1 H locs ls hP hD hS hl
      refine lv_iload_n hx hb dX1_passDay_2 rfl (lv_at hl 0 rfl) ?_
      refine lv_aload_n hx hb dX1_passDay_3 rfl (lv_at hl 1 rfl) ?_
      refine va_get (D := (dC, dI)) (ci := 1) (v := .ref (x 26)) (C := RX1) (T := TX1) (N := 2) hx hb hts inB_1 hown hE.1 hP 28 rfl rfl 0 (by decide) (hts _ k_318) (fun _ h9 => h9) rfl dX1_passDay_4 ?_
      refine va_getN (D := (dC, dI)) (ci := 7) (v := .int (v1 31)) (C := RX7) (T := TX7) (N := 10) hx hb hts inB_7 hown hE.1 hP 27 rfl rfl 3 (by decide) (va_Nw.use rfl (hE.2 _ k_219)) (fun _ h9 => h9) rfl dX1_passDay_7 ?_
      refine tI (y := (v 31)) hq31_v1 ?_
      have b31_v : 0 ≤ (v 31).toInt ∧ (v 31).toInt ≤ 6 := XI.b hIv 31 (by decide)
      refine lv_icmp_ge (tgt := 46) hx hb dX1_passDay_10 (by decide) (fun c2 => ?_) (fun c2 => ?_)
      · skip
        have zc2 : (v 31).toInt ≤ l2_1.toInt := by rw [fa_le] at c2; exact c2
        have rg3 := fb_rng l2_1
        have rg4 := fb_rng (v 31)
        refine lv_aload_n hx hb dX1_passDay_46 rfl (lv_at hl 1 rfl) ?_
        refine va_get (D := (dC, dI)) (ci := 1) (v := .ref (x 28)) (C := RX1) (T := TX1) (N := 2) hx hb hts inB_1 hown hE.1 hP 28 rfl rfl 1 (by decide) (hts _ k_319) (fun _ h9 => h9) rfl dX1_passDay_47 ?_
        refine lv_bipush (v := 43) hx hb dX1_passDay_50 (by decide) ?_
        refine lv_aload_n hx hb dX1_passDay_52 rfl (lv_at hl 1 rfl) ?_
        refine va_get (D := (dC, dI)) (ci := 1) (v := .ref (x 28)) (C := RX1) (T := TX1) (N := 2) hx hb hts inB_1 hown hE.1 hP 28 rfl rfl 1 (by decide) (hts _ k_319) (fun _ h9 => h9) rfl dX1_passDay_53 ?_
        refine lv_bipush (v := 43) hx hb dX1_passDay_56 (by decide) ?_
        refine ldI hx hb hE hP 29 rfl (vp_in_nI (n := 43) (by decide) (by decide)) rfl rfl dX1_passDay_58 ?_
        refine lv_topi (fun t5 et5 => ?_)
        refine lv_sipush (v := 137) hx hb dX1_passDay_59 (by decide) ?_
        refine lv_imul hx hb dX1_passDay_62 ?_
        refine lv_topi (fun t6 et6 => ?_)
        refine lv_bipush (v := 71) hx hb dX1_passDay_63 (by decide) ?_
        refine lv_iadd hx hb dX1_passDay_65 ?_
        refine lv_topi (fun t7 et7 => ?_)
        refine lv_sipush (v := 1000) hx hb dX1_passDay_66 (by decide) ?_
        refine lv_irem hx hb dX1_passDay_69 (by decide) ?_
        refine lv_topi (fun t8 et8 => ?_)
        refine stI hx hb hE hP hD hS 29 rfl (vp_in_nI (n := 43) (by decide) (by decide)) rfl dX1_passDay_70 (fun H locs hP hD hS => ?_)
        obtain ⟨f9, ef9, hP, hD⟩ : ∃ fz9, fz9 = upd2 f1 18 (upd (f1 18) (43 : Int32).toNatClampNeg t8) ∧ va_P (dC, dI) vwCl (XW cy x0 x v1 fz9) H ∧ va_D A (XW cy x0 x v1 fz9) := ⟨_, rfl, hP, hD⟩
        have hA_f9 : KF [13, 14, 18] f9 f := by rw [ef9]; exact KF.up hA_f1 rfl
        refine lv_aload_n hx hb dX1_passDay_71 rfl (lv_at hl 1 rfl) ?_
        refine va_get (D := (dC, dI)) (ci := 1) (v := .ref (x 28)) (C := RX1) (T := TX1) (N := 2) hx hb hts inB_1 hown hE.1 hP 28 rfl rfl 1 (by decide) (hts _ k_319) (fun _ h9 => h9) rfl dX1_passDay_72 ?_
        refine lv_bipush (v := 43) hx hb dX1_passDay_75 (by decide) ?_
        refine ldI hx hb hE hP 29 rfl (vp_in_nI (n := 43) (by decide) (by decide)) rfl rfl dX1_passDay_77 ?_
        refine lv_topi (fun t10 et10 => ?_)
        refine lv_bipush (v := 100) hx hb dX1_passDay_78 (by decide) ?_
        refine lv_irem hx hb dX1_passDay_80 (by decide) ?_
        refine lv_topi (fun t11 et11 => ?_)
        refine lv_iload_n hx hb dX1_passDay_81 rfl (lv_at hl 2 rfl) ?_
        refine lv_icmp_ge (tgt := 89) hx hb dX1_passDay_82 (by decide) (fun c12 => ?_) (fun c12 => ?_)
        · skip
          have zc12 : p1.toInt ≤ t11.toInt := by rw [fa_le] at c12; exact c12
          have rg13 := fb_rng t11
          have rg14 := fb_rng p1
          refine lv_iconst (v := 0) hx hb dX1_passDay_89 (by decide) ?_
          refine lv_istore_n (lv' := [(2, .int 0), (0, .ref (x 27)), (1, .int p1)]) hx hb dX1_passDay_90 rfl hl (by decide) rfl (fun ls hl => ?_)
          refine lv_iconst (v := 0) hx hb dX1_passDay_91 (by decide) ?_
          refine lv_istore_n (lv' := [(3, .int 0), (2, .int 0), (0, .ref (x 27)), (1, .int p1)]) hx hb dX1_passDay_92 rfl hl (by decide) rfl (fun ls hl => ?_)
          have lp15 : ∀ (n15 : Nat) (l3_15 : Int32) (v15 : Nat → Int32) (f15 : Nat → Nat → Int32), XI v15 → v15 0 = (v 0) → v15 1 = (v 1) → v15 7 = (v 7) → v15 8 = (v 8) → v15 9 = (v 9) → v15 10 = (v 10) → v15 31 = (v 31) → v15 32 = (v 32) → gsX_X1_passDay_2_L15 NF v n15 l3_15 v15 f15 = (gsX_X1_passDay_2 NF p1 v f) → ((0 : Int) ≤ l3_15.toInt ∧ l3_15.toInt ≤ 2147483647) → KV [] v15 v → KF [13, 14, 18] f15 f → (2147483647 - l3_15.toInt).toNat < n15 → ∀ (H : Heap) (locs : List Loc) (ls : Array Slot), va_P (dC, dI) vwCl (XW cy x0 x v15 f15) H → va_D A (XW cy x0 x v15 f15) → va_S A s.heap H locs → lv_has ls 5 [(3, .int l3_15), (2, .int 0), (0, .ref (x 27)), (1, .int p1)] → W p l e { frames := 5, cells := 0, slots := 0, locals := 155 } s m ([.ref (x 27), .int p1] : List Value).toArray below meth c H locs 0 0 Q (F0 m 93 ls []) := by
            intro n15
            induction n15 with
            | zero => intro l3_15 v15 f15 hIv15 hq0_v15 hq1_v15 hq7_v15 hq8_v15 hq9_v15 hq10_v15 hq31_v15 hq32_v15 hT15 hr3_15 hM_v15 hA_f15 hm; exact absurd hm (Nat.not_lt_zero _)
            | succ n15 ih15 =>
              intro l3_15 v15 f15 hIv15 hq0_v15 hq1_v15 hq7_v15 hq8_v15 hq9_v15 hq10_v15 hq31_v15 hq32_v15 hT15 hr3_15 hM_v15 hA_f15 hm15 H locs ls hP hD hS hl
              refine lv_iload_n hx hb dX1_passDay_93 rfl (lv_at hl 0 rfl) ?_
              refine lv_aload_n hx hb dX1_passDay_94 rfl (lv_at hl 2 rfl) ?_
              refine va_get (D := (dC, dI)) (ci := 1) (v := .ref (x 26)) (C := RX1) (T := TX1) (N := 2) hx hb hts inB_1 hown hE.1 hP 28 rfl rfl 0 (by decide) (hts _ k_318) (fun _ h9 => h9) rfl dX1_passDay_95 ?_
              refine va_getN (D := (dC, dI)) (ci := 7) (v := .int (v15 31)) (C := RX7) (T := TX7) (N := 10) hx hb hts inB_7 hown hE.1 hP 27 rfl rfl 3 (by decide) (va_Nw.use rfl (hE.2 _ k_219)) (fun _ h9 => h9) rfl dX1_passDay_98 ?_
              refine tI (y := (v 31)) hq31_v15 ?_
              have b31_v : 0 ≤ (v 31).toInt ∧ (v 31).toInt ≤ 6 := XI.b hIv 31 (by decide)
              refine lv_icmp_ge (tgt := 120) hx hb dX1_passDay_101 (by decide) (fun c16 => ?_) (fun c16 => ?_)
              · skip
                have zc16 : (v 31).toInt ≤ l3_15.toInt := by rw [fa_le] at c16; exact c16
                have rg17 := fb_rng l3_15
                refine lv_aload_n hx hb dX1_passDay_120 rfl (lv_at hl 2 rfl) ?_
                refine va_get (D := (dC, dI)) (ci := 1) (v := .ref (x 28)) (C := RX1) (T := TX1) (N := 2) hx hb hts inB_1 hown hE.1 hP 28 rfl rfl 1 (by decide) (hts _ k_319) (fun _ h9 => h9) rfl dX1_passDay_121 ?_
                refine lv_bipush (v := 42) hx hb dX1_passDay_124 (by decide) ?_
                refine lv_dup2_11 hx hb dX1_passDay_126 rfl rfl ?_
                refine ldI hx hb hE hP 29 rfl (vp_in_nI (n := 42) (by decide) (by decide)) rfl rfl dX1_passDay_127 ?_
                refine lv_topi (fun t18 et18 => ?_)
                refine lv_iconst (v := 1) hx hb dX1_passDay_128 (by decide) ?_
                refine lv_iadd hx hb dX1_passDay_129 ?_
                refine lv_topi (fun t19 et19 => ?_)
                refine stI hx hb hE hP hD hS 29 rfl (vp_in_nI (n := 42) (by decide) (by decide)) rfl dX1_passDay_130 (fun H locs hP hD hS => ?_)
                obtain ⟨f20, ef20, hP, hD⟩ : ∃ fz9, fz9 = upd2 f15 18 (upd (f15 18) (42 : Int32).toNatClampNeg t19) ∧ va_P (dC, dI) vwCl (XW cy x0 x v15 fz9) H ∧ va_D A (XW cy x0 x v15 fz9) := ⟨_, rfl, hP, hD⟩
                have hA_f20 : KF [13, 14, 18] f20 f := by rw [ef20]; exact KF.up hA_f15 rfl
                refine lv_iconst (v := 0) hx hb dX1_passDay_131 (by decide) ?_
                refine lv_istore_n (lv' := [(3, .int 0), (2, .int 0), (0, .ref (x 27)), (1, .int p1)]) hx hb dX1_passDay_132 rfl hl (by decide) rfl (fun ls hl => ?_)
                refine lv_iconst (v := 0) hx hb dX1_passDay_133 (by decide) ?_
                refine lv_istore (lv' := [(4, .int 0), (3, .int 0), (2, .int 0), (0, .ref (x 27)), (1, .int p1)]) hx hb dX1_passDay_134 hl (by decide) rfl (fun ls hl => ?_)
                have lp21 : ∀ (n21 : Nat) (l3_21 : Int32) (l4_21 : Int32) (v21 : Nat → Int32) (f21 : Nat → Nat → Int32), XI v21 → v21 0 = (v 0) → v21 1 = (v 1) → v21 7 = (v 7) → v21 8 = (v 8) → v21 9 = (v 9) → v21 10 = (v 10) → v21 31 = (v 31) → v21 32 = (v 32) → gsX_X1_passDay_2_L21 NF v n21 l3_21 l4_21 v21 f21 = (gsX_X1_passDay_2 NF p1 v f) → ((0 : Int) ≤ l4_21.toInt ∧ l4_21.toInt ≤ 2147483647) → KV [] v21 v → KF [13, 14, 18] f21 f → (2147483647 - l4_21.toInt).toNat < n21 → ∀ (H : Heap) (locs : List Loc) (ls : Array Slot), va_P (dC, dI) vwCl (XW cy x0 x v21 f21) H → va_D A (XW cy x0 x v21 f21) → va_S A s.heap H locs → lv_has ls 5 [(4, .int l4_21), (3, .int l3_21), (2, .int 0), (0, .ref (x 27)), (1, .int p1)] → W p l e { frames := 5, cells := 0, slots := 0, locals := 155 } s m ([.ref (x 27), .int p1] : List Value).toArray below meth c H locs 0 0 Q (F0 m 136 ls []) := by
                  intro n21
                  induction n21 with
                  | zero => intro l3_21 l4_21 v21 f21 hIv21 hq0_v21 hq1_v21 hq7_v21 hq8_v21 hq9_v21 hq10_v21 hq31_v21 hq32_v21 hT21 hr4_21 hM_v21 hA_f21 hm; exact absurd hm (Nat.not_lt_zero _)
                  | succ n21 ih21 =>
                    intro l3_21 l4_21 v21 f21 hIv21 hq0_v21 hq1_v21 hq7_v21 hq8_v21 hq9_v21 hq10_v21 hq31_v21 hq32_v21 hT21 hr4_21 hM_v21 hA_f21 hm21 H locs ls hP hD hS hl
                    refine lv_iload hx hb dX1_passDay_136 (lv_at hl 0 rfl) ?_
                    refine lv_aload_n hx hb dX1_passDay_138 rfl (lv_at hl 3 rfl) ?_
                    refine va_get (D := (dC, dI)) (ci := 1) (v := .ref (x 26)) (C := RX1) (T := TX1) (N := 2) hx hb hts inB_1 hown hE.1 hP 28 rfl rfl 0 (by decide) (hts _ k_318) (fun _ h9 => h9) rfl dX1_passDay_139 ?_
                    refine va_getN (D := (dC, dI)) (ci := 7) (v := .int (v21 31)) (C := RX7) (T := TX7) (N := 10) hx hb hts inB_7 hown hE.1 hP 27 rfl rfl 3 (by decide) (va_Nw.use rfl (hE.2 _ k_219)) (fun _ h9 => h9) rfl dX1_passDay_142 ?_
                    refine tI (y := (v 31)) hq31_v21 ?_
                    have b31_v : 0 ≤ (v 31).toInt ∧ (v 31).toInt ≤ 6 := XI.b hIv 31 (by decide)
                    refine lv_icmp_ge (tgt := 193) hx hb dX1_passDay_145 (by decide) (fun c22 => ?_) (fun c22 => ?_)
                    · skip
                      have zc22 : (v 31).toInt ≤ l4_21.toInt := by rw [fa_le] at c22; exact c22
                      have rg23 := fb_rng l4_21
                      refine lv_iload_n hx hb dX1_passDay_193 rfl (lv_at hl 1 rfl) ?_
                      exact ret l3_21 (v21, f21) _ _ _ _ _ _ rfl ⟨(hT21.symm.trans (gsX_X1_passDay_2_q0 c22)), hM_v21, hA_f21, hIv21, hq0_v21, hq1_v21, hq7_v21, hq8_v21, hq9_v21, hq10_v21, hq31_v21, hq32_v21⟩ hP hD hS dX1_passDay_194 (Nat.le_refl _) (Nat.le_refl _)
                    · skip
                      have zc22 : ¬ ((v 31).toInt ≤ l4_21.toInt) := by rw [fa_le] at c22; exact c22
                      have rg24 := fb_rng l4_21
                      refine lv_aload_n hx hb dX1_passDay_148 rfl (lv_at hl 3 rfl) ?_
                      refine lv_iload hx hb dX1_passDay_149 (lv_at hl 0 rfl) ?_
                      refine cbVi (n := 1) (rest := []) hx hb hml hown hts hE hP hD hS hA (sX_X1_wears_2 NF l dC dI cy x0 x l4_21 v21 f21 hIv21 ) k_853 k_810 k_811 k_106 k_812 (by decide +kernel) ⟨Nat.le_of_ble_eq_true rfl, Nat.le_of_ble_eq_true rfl⟩ 28 1 rfl rfl (rfl) hl.1 rfl (Nat.le_of_ble_eq_true rfl) dX1_passDay_151 (fun r25 u H locs hw hP hD hS => ?_)
                      have hG26 := hw
                      refine lv_iconst (v := (-1)) hx hb dX1_passDay_154 (by decide) ?_
                      refine lv_icmp_eq (tgt := 187) hx hb dX1_passDay_155 (by decide) (fun c27 => ?_) (fun c27 => ?_)
                      · skip
                        have zc27 : r25.toInt = (-1) := by rw [fa_eq, show ((-1) : Int32).toInt = -1 from by decide] at c27; exact c27
                        obtain ⟨t28, et28⟩ : ∃ y : Int32, y = l4_21 + 1 := ⟨_, rfl⟩
                        have zt28 : t28.toInt = l4_21.toInt + 1 := by rw [et28]; exact add_i rfl (by decide) (by omega) (by omega)
                        refine lv_iinc (v := t28) (lv' := [(4, .int t28), (3, .int l3_21), (2, .int 0), (0, .ref (x 27)), (1, .int p1)]) hx hb dX1_passDay_187 hl (k := 0) rfl (by rw [et28]; rfl) (by decide) rfl (fun ls hl => ?_)
                        refine lv_goto (tgt := 136) hx hb dX1_passDay_190 (by decide) ?_
                        have rg29 := fb_rng t28
                        exact ih21 l3_21 t28 v21 f21 hIv21 hq0_v21 hq1_v21 hq7_v21 hq8_v21 hq9_v21 hq10_v21 hq31_v21 hq32_v21 ((gsX_X1_passDay_2_q1 c22 hG26.symm c27 et28).symm.trans hT21) ⟨show (0 : Int) ≤ t28.toInt by omega, show t28.toInt ≤ (2147483647 : Int) by omega⟩ hM_v21 hA_f21 (by show (2147483647 - t28.toInt).toNat < n21; omega) _ _ _ hP hD hS (lv_sub hl [0, 1, 2, 3, 4] rfl)
                      · skip
                        have zc27 : ¬ (r25.toInt = (-1)) := by rw [fa_eq, show ((-1) : Int32).toInt = -1 from by decide] at c27; exact c27
                        refine lv_aload_n hx hb dX1_passDay_158 rfl (lv_at hl 3 rfl) ?_
                        refine lv_iload hx hb dX1_passDay_159 (lv_at hl 0 rfl) ?_
                        refine lv_aload_n hx hb dX1_passDay_161 rfl (lv_at hl 3 rfl) ?_
                        refine lv_iload hx hb dX1_passDay_162 (lv_at hl 0 rfl) ?_
                        refine cbVi (n := 1) (rest := [.int l4_21, .ref (x 27)]) hx hb hml hown hts hE hP hD hS hA (sX_X1_wears_2 NF l dC dI cy x0 x l4_21 v21 f21 hIv21 ) k_853 k_810 k_811 k_106 k_812 (by decide +kernel) ⟨Nat.le_of_ble_eq_true rfl, Nat.le_of_ble_eq_true rfl⟩ 28 1 rfl rfl (rfl) hl.1 rfl (Nat.le_of_ble_eq_true rfl) dX1_passDay_164 (fun r30 u H locs hw hP hD hS => ?_)
                        have hG31 := hw
                        refine cbVi (n := 2) (rest := []) hx hb hml hown hts hE hP hD hS hA (sX_X1_fits_2 NF l dC dI cy x0 x l4_21 r30 v21 f21 hIv21 ) k_817 k_818 k_819 k_106 k_820 (by decide +kernel) ⟨Nat.le_of_ble_eq_true rfl, Nat.le_of_ble_eq_true rfl⟩ 28 1 rfl rfl (rfl) hl.1 rfl (Nat.le_of_ble_eq_true rfl) dX1_passDay_167 (fun r32 u H locs hw hP hD hS => ?_)
                        obtain ⟨hG33, hw⟩ := hw
                        obtain ⟨v34, f35⟩ := u
                        obtain ⟨kV_v34, kF_f35, hIv34, hk0_v34, hk1_v34, hk7_v34, hk8_v34, hk9_v34, hk10_v34, hk31_v34, hk32_v34, hw⟩ := hw
                        have hM_v34 : KV [] v34 v := KV.tr kV_v34 hM_v21 rfl
                        have hA_f35 : KF [13, 14, 18] f35 f := KF.tr kF_f35 hA_f21 rfl
                        have hP : va_P (dC, dI) vwCl (XW cy x0 x v34 f35) H := hP
                        have hD : va_D A (XW cy x0 x v34 f35) := hD
                        have hq0_v34 : v34 0 = (v 0) := hk0_v34.trans hq0_v21
                        have hq1_v34 : v34 1 = (v 1) := hk1_v34.trans hq1_v21
                        have hq7_v34 : v34 7 = (v 7) := hk7_v34.trans hq7_v21
                        have hq8_v34 : v34 8 = (v 8) := hk8_v34.trans hq8_v21
                        have hq9_v34 : v34 9 = (v 9) := hk9_v34.trans hq9_v21
                        have hq10_v34 : v34 10 = (v 10) := hk10_v34.trans hq10_v21
                        have hq31_v34 : v34 31 = (v 31) := hk31_v34.trans hq31_v21
                        have hq32_v34 : v34 32 = (v 32) := hk32_v34.trans hq32_v21
                        rcases hw with ⟨g36⟩ | ⟨g36⟩
                        · skip
                          subst g36
                          refine lv_if_ne (tgt := 187) hx hb dX1_passDay_170 (by decide) (fun _ => ?_) (fun c0 => absurd c0 (by decide))
                          obtain ⟨t37, et37⟩ : ∃ y : Int32, y = l4_21 + 1 := ⟨_, rfl⟩
                          have zt37 : t37.toInt = l4_21.toInt + 1 := by rw [et37]; exact add_i rfl (by decide) (by omega) (by omega)
                          refine lv_iinc (v := t37) (lv' := [(4, .int t37), (3, .int l3_21), (2, .int 0), (0, .ref (x 27)), (1, .int p1)]) hx hb dX1_passDay_187 hl (k := 0) rfl (by rw [et37]; rfl) (by decide) rfl (fun ls hl => ?_)
                          refine lv_goto (tgt := 136) hx hb dX1_passDay_190 (by decide) ?_
                          have rg38 := fb_rng t37
                          exact ih21 l3_21 t37 v34 f35 hIv34 hq0_v34 hq1_v34 hq7_v34 hq8_v34 hq9_v34 hq10_v34 hq31_v34 hq32_v34 ((gsX_X1_passDay_2_q2 c22 hG26.symm c27 hG31.symm hG33 et37).symm.trans hT21) ⟨show (0 : Int) ≤ t37.toInt by omega, show t37.toInt ≤ (2147483647 : Int) by omega⟩ hM_v34 hA_f35 (by show (2147483647 - t37.toInt).toNat < n21; omega) _ _ _ hP hD hS (lv_sub hl [0, 1, 2, 3, 4] rfl)
                        · skip
                          subst g36
                          refine lv_if_ne (tgt := 187) hx hb dX1_passDay_170 (by decide) (fun c0 => absurd (by decide) c0) (fun _ => ?_)
                          refine lv_aload_n hx hb dX1_passDay_173 rfl (lv_at hl 3 rfl) ?_
                          refine lv_iload hx hb dX1_passDay_174 (lv_at hl 0 rfl) ?_
                          refine lv_iconst (v := (-1)) hx hb dX1_passDay_176 (by decide) ?_
                          refine cbVv (n := 2) (rest := []) hx hb hml hown hts hE hP hD hS hA (sX_X1_setWears_2 NF l dC dI cy x0 x l4_21 (-1) v34 f35 hIv34 ) k_879 k_880 k_881 k_106 k_882 (by decide +kernel) ⟨Nat.le_of_ble_eq_true rfl, Nat.le_of_ble_eq_true rfl⟩ 28 1 rfl rfl (rfl) hl.1 rfl (Nat.le_of_ble_eq_true rfl) dX1_passDay_177 (fun u H locs hw hP hD hS => ?_)
                          obtain ⟨hG39, hw⟩ := hw
                          obtain ⟨v40, f41⟩ := u
                          obtain ⟨kV_v40, kF_f41, hIv40, hk0_v40, hk1_v40, hk7_v40, hk8_v40, hk9_v40, hk10_v40, hk31_v40, hk32_v40⟩ := hw
                          have hM_v40 : KV [] v40 v := KV.tr kV_v40 hM_v34 rfl
                          have hA_f41 : KF [13, 14, 18] f41 f := KF.tr kF_f41 hA_f35 rfl
                          have hP : va_P (dC, dI) vwCl (XW cy x0 x v40 f41) H := hP
                          have hD : va_D A (XW cy x0 x v40 f41) := hD
                          have hq0_v40 : v40 0 = (v 0) := hk0_v40.trans hq0_v34
                          have hq1_v40 : v40 1 = (v 1) := hk1_v40.trans hq1_v34
                          have hq7_v40 : v40 7 = (v 7) := hk7_v40.trans hq7_v34
                          have hq8_v40 : v40 8 = (v 8) := hk8_v40.trans hq8_v34
                          have hq9_v40 : v40 9 = (v 9) := hk9_v40.trans hq9_v34
                          have hq10_v40 : v40 10 = (v 10) := hk10_v40.trans hq10_v34
                          have hq31_v40 : v40 31 = (v 31) := hk31_v40.trans hq31_v34
                          have hq32_v40 : v40 32 = (v 32) := hk32_v40.trans hq32_v34
                          refine lv_iload_n hx hb dX1_passDay_180 rfl (lv_at hl 1 rfl) ?_
                          refine lv_iconst (v := 1) hx hb dX1_passDay_181 (by decide) ?_
                          refine lv_iload hx hb dX1_passDay_182 (lv_at hl 0 rfl) ?_
                          refine lv_ishl hx hb dX1_passDay_184 ?_
                          refine lv_topi (fun t42 et42 => ?_)
                          have zt42 : 1 ≤ t42.toInt ∧ t42.toInt ≤ 32 := by rw [et42]; exact shl1_rng (by omega) (by omega)
                          refine lv_ior hx hb dX1_passDay_185 ?_
                          refine lv_topi (fun t43 et43 => ?_)
                          refine lv_istore_n (lv' := [(3, .int t43), (4, .int l4_21), (2, .int 0), (0, .ref (x 27)), (1, .int p1)]) hx hb dX1_passDay_186 rfl hl (by decide) rfl (fun ls hl => ?_)
                          obtain ⟨t44, et44⟩ : ∃ y : Int32, y = l4_21 + 1 := ⟨_, rfl⟩
                          have zt44 : t44.toInt = l4_21.toInt + 1 := by rw [et44]; exact add_i rfl (by decide) (by omega) (by omega)
                          refine lv_iinc (v := t44) (lv' := [(4, .int t44), (3, .int t43), (2, .int 0), (0, .ref (x 27)), (1, .int p1)]) hx hb dX1_passDay_187 hl (k := 1) rfl (by rw [et44]; rfl) (by decide) rfl (fun ls hl => ?_)
                          refine lv_goto (tgt := 136) hx hb dX1_passDay_190 (by decide) ?_
                          have rg45 := fb_rng t44
                          exact ih21 t43 t44 v40 f41 hIv40 hq0_v40 hq1_v40 hq7_v40 hq8_v40 hq9_v40 hq10_v40 hq31_v40 hq32_v40 ((gsX_X1_passDay_2_q3 c22 hG26.symm c27 hG31.symm hG33 hG39 et42 et43 et44).symm.trans hT21) ⟨show (0 : Int) ≤ t44.toInt by omega, show t44.toInt ≤ (2147483647 : Int) by omega⟩ hM_v40 hA_f41 (by show (2147483647 - t44.toInt).toNat < n21; omega) _ _ _ hP hD hS (lv_sub hl [0, 1, 2, 3, 4] rfl)
                exact lp21 (4294967296 + NF) 0 0 v15 f20 hIv15 hq0_v15 hq1_v15 hq7_v15 hq8_v15 hq9_v15 hq10_v15 hq31_v15 hq32_v15 ((gsX_X1_passDay_2_q4 c16 et18 et19 ef20).symm.trans hT15) ⟨by decide, by decide⟩ hM_v15 hA_f20 (by have q4 : (0 : Int32).toInt = 0 := (by decide); have q3 : (0 : Int32).toInt = 0 := (by decide); have q2 : (0 : Int32).toInt = 0 := (by decide); show (2147483647 - (0 : Int32).toInt).toNat < 4294967296 + NF; omega) _ _ _ hP hD hS (lv_sub hl [0, 1, 2, 3, 4] rfl)
              · skip
                have zc16 : ¬ ((v 31).toInt ≤ l3_15.toInt) := by rw [fa_le] at c16; exact c16
                have rg46 := fb_rng l3_15
                refine lv_aload_n hx hb dX1_passDay_104 rfl (lv_at hl 2 rfl) ?_
                refine lv_aload_n hx hb dX1_passDay_105 rfl (lv_at hl 2 rfl) ?_
                refine lv_iload_n hx hb dX1_passDay_106 rfl (lv_at hl 0 rfl) ?_
                refine cbVi (n := 1) (rest := [.ref (x 27)]) hx hb hml hown hts hE hP hD hS hA (sX_X1_wears_2 NF l dC dI cy x0 x l3_15 v15 f15 hIv15 ) k_853 k_810 k_811 k_106 k_812 (by decide +kernel) ⟨Nat.le_of_ble_eq_true rfl, Nat.le_of_ble_eq_true rfl⟩ 28 1 rfl rfl (rfl) hl.1 rfl (Nat.le_of_ble_eq_true rfl) dX1_passDay_107 (fun r47 u H locs hw hP hD hS => ?_)
                have hG48 := hw
                refine lv_iload_n hx hb dX1_passDay_110 rfl (lv_at hl 1 rfl) ?_
                refine cbVv (n := 2) (rest := []) hx hb hml hown hts hE hP hD hS hA (sX_X1_weather_2 NF l dC dI cy x0 x r47 0 v15 f15 hIv15 ) k_870 k_872 k_20 k_106 k_873 (by decide +kernel) ⟨Nat.le_of_ble_eq_true rfl, Nat.le_of_ble_eq_true rfl⟩ 28 1 rfl rfl (rfl) hl.1 rfl (Nat.le_of_ble_eq_true rfl) dX1_passDay_111 (fun u H locs hw hP hD hS => ?_)
                obtain ⟨hG49, hw⟩ := hw
                obtain ⟨v50, f51⟩ := u
                obtain ⟨kV_v50, kF_f51, hIv50, hk0_v50, hk1_v50, hk7_v50, hk8_v50, hk9_v50, hk10_v50, hk31_v50, hk32_v50⟩ := hw
                have hM_v50 : KV [] v50 v := KV.tr kV_v50 hM_v15 rfl
                have hA_f51 : KF [13, 14, 18] f51 f := KF.tr kF_f51 hA_f15 rfl
                have hP : va_P (dC, dI) vwCl (XW cy x0 x v50 f51) H := hP
                have hD : va_D A (XW cy x0 x v50 f51) := hD
                have hq0_v50 : v50 0 = (v 0) := hk0_v50.trans hq0_v15
                have hq1_v50 : v50 1 = (v 1) := hk1_v50.trans hq1_v15
                have hq7_v50 : v50 7 = (v 7) := hk7_v50.trans hq7_v15
                have hq8_v50 : v50 8 = (v 8) := hk8_v50.trans hq8_v15
                have hq9_v50 : v50 9 = (v 9) := hk9_v50.trans hq9_v15
                have hq10_v50 : v50 10 = (v 10) := hk10_v50.trans hq10_v15
                have hq31_v50 : v50 31 = (v 31) := hk31_v50.trans hq31_v15
                have hq32_v50 : v50 32 = (v 32) := hk32_v50.trans hq32_v15
                obtain ⟨t52, et52⟩ : ∃ y : Int32, y = l3_15 + 1 := ⟨_, rfl⟩
                have zt52 : t52.toInt = l3_15.toInt + 1 := by rw [et52]; exact add_i rfl (by decide) (by omega) (by omega)
                refine lv_iinc (v := t52) (lv' := [(3, .int t52), (2, .int 0), (0, .ref (x 27)), (1, .int p1)]) hx hb dX1_passDay_114 hl (k := 0) rfl (by rw [et52]; rfl) (by decide) rfl (fun ls hl => ?_)
                refine lv_goto (tgt := 93) hx hb dX1_passDay_117 (by decide) ?_
                have rg53 := fb_rng t52
                exact ih15 t52 v50 f51 hIv50 hq0_v50 hq1_v50 hq7_v50 hq8_v50 hq9_v50 hq10_v50 hq31_v50 hq32_v50 ((gsX_X1_passDay_2_q5 c16 hG48.symm hG49 et52).symm.trans hT15) ⟨show (0 : Int) ≤ t52.toInt by omega, show t52.toInt ≤ (2147483647 : Int) by omega⟩ hM_v50 hA_f51 (by show (2147483647 - t52.toInt).toNat < n15; omega) _ _ _ hP hD hS (lv_sub hl [0, 1, 2, 3] rfl)
          exact lp15 (4294967296 + NF) 0 v1 f9 hIv1 hq0_v1 hq1_v1 hq7_v1 hq8_v1 hq9_v1 hq10_v1 hq31_v1 hq32_v1 ((gsX_X1_passDay_2_q6 c2 et5 et6 et7 et8 ef9 et10 et11 c12).symm.trans hT1) ⟨by decide, by decide⟩ hM_v1 hA_f9 (by have q3 : (0 : Int32).toInt = 0 := (by decide); have q2 : (0 : Int32).toInt = 0 := (by decide); show (2147483647 - (0 : Int32).toInt).toNat < 4294967296 + NF; omega) _ _ _ hP hD hS (lv_sub hl [0, 1, 2, 3] rfl)
        · skip
          have zc12 : ¬ (p1.toInt ≤ t11.toInt) := by rw [fa_le] at c12; exact c12
          have rg54 := fb_rng t11
          have rg55 := fb_rng p1
          refine lv_iconst (v := 1) hx hb dX1_passDay_85 (by decide) ?_
          refine lv_goto (tgt := 90) hx hb dX1_passDay_86 (by decide) ?_
          refine lv_istore_n (lv' := [(2, .int 1), (0, .ref (x 27)), (1, .int p1)]) hx hb dX1_passDay_90 rfl hl (by decide) rfl (fun ls hl => ?_)
          refine lv_iconst (v := 0) hx hb dX1_passDay_91 (by decide) ?_
          refine lv_istore_n (lv' := [(3, .int 0), (2, .int 1), (0, .ref (x 27)), (1, .int p1)]) hx hb dX1_passDay_92 rfl hl (by decide) rfl (fun ls hl => ?_)
          have lp56 : ∀ (n56 : Nat) (l3_56 : Int32) (v56 : Nat → Int32) (f56 : Nat → Nat → Int32), XI v56 → v56 0 = (v 0) → v56 1 = (v 1) → v56 7 = (v 7) → v56 8 = (v 8) → v56 9 = (v 9) → v56 10 = (v 10) → v56 31 = (v 31) → v56 32 = (v 32) → gsX_X1_passDay_2_L56 NF v n56 l3_56 v56 f56 = (gsX_X1_passDay_2 NF p1 v f) → ((0 : Int) ≤ l3_56.toInt ∧ l3_56.toInt ≤ 2147483647) → KV [] v56 v → KF [13, 14, 18] f56 f → (2147483647 - l3_56.toInt).toNat < n56 → ∀ (H : Heap) (locs : List Loc) (ls : Array Slot), va_P (dC, dI) vwCl (XW cy x0 x v56 f56) H → va_D A (XW cy x0 x v56 f56) → va_S A s.heap H locs → lv_has ls 5 [(3, .int l3_56), (2, .int 1), (0, .ref (x 27)), (1, .int p1)] → W p l e { frames := 5, cells := 0, slots := 0, locals := 155 } s m ([.ref (x 27), .int p1] : List Value).toArray below meth c H locs 0 0 Q (F0 m 93 ls []) := by
            intro n56
            induction n56 with
            | zero => intro l3_56 v56 f56 hIv56 hq0_v56 hq1_v56 hq7_v56 hq8_v56 hq9_v56 hq10_v56 hq31_v56 hq32_v56 hT56 hr3_56 hM_v56 hA_f56 hm; exact absurd hm (Nat.not_lt_zero _)
            | succ n56 ih56 =>
              intro l3_56 v56 f56 hIv56 hq0_v56 hq1_v56 hq7_v56 hq8_v56 hq9_v56 hq10_v56 hq31_v56 hq32_v56 hT56 hr3_56 hM_v56 hA_f56 hm56 H locs ls hP hD hS hl
              refine lv_iload_n hx hb dX1_passDay_93 rfl (lv_at hl 0 rfl) ?_
              refine lv_aload_n hx hb dX1_passDay_94 rfl (lv_at hl 2 rfl) ?_
              refine va_get (D := (dC, dI)) (ci := 1) (v := .ref (x 26)) (C := RX1) (T := TX1) (N := 2) hx hb hts inB_1 hown hE.1 hP 28 rfl rfl 0 (by decide) (hts _ k_318) (fun _ h9 => h9) rfl dX1_passDay_95 ?_
              refine va_getN (D := (dC, dI)) (ci := 7) (v := .int (v56 31)) (C := RX7) (T := TX7) (N := 10) hx hb hts inB_7 hown hE.1 hP 27 rfl rfl 3 (by decide) (va_Nw.use rfl (hE.2 _ k_219)) (fun _ h9 => h9) rfl dX1_passDay_98 ?_
              refine tI (y := (v 31)) hq31_v56 ?_
              have b31_v : 0 ≤ (v 31).toInt ∧ (v 31).toInt ≤ 6 := XI.b hIv 31 (by decide)
              refine lv_icmp_ge (tgt := 120) hx hb dX1_passDay_101 (by decide) (fun c57 => ?_) (fun c57 => ?_)
              · skip
                have zc57 : (v 31).toInt ≤ l3_56.toInt := by rw [fa_le] at c57; exact c57
                have rg58 := fb_rng l3_56
                refine lv_aload_n hx hb dX1_passDay_120 rfl (lv_at hl 2 rfl) ?_
                refine va_get (D := (dC, dI)) (ci := 1) (v := .ref (x 28)) (C := RX1) (T := TX1) (N := 2) hx hb hts inB_1 hown hE.1 hP 28 rfl rfl 1 (by decide) (hts _ k_319) (fun _ h9 => h9) rfl dX1_passDay_121 ?_
                refine lv_bipush (v := 42) hx hb dX1_passDay_124 (by decide) ?_
                refine lv_dup2_11 hx hb dX1_passDay_126 rfl rfl ?_
                refine ldI hx hb hE hP 29 rfl (vp_in_nI (n := 42) (by decide) (by decide)) rfl rfl dX1_passDay_127 ?_
                refine lv_topi (fun t59 et59 => ?_)
                refine lv_iconst (v := 1) hx hb dX1_passDay_128 (by decide) ?_
                refine lv_iadd hx hb dX1_passDay_129 ?_
                refine lv_topi (fun t60 et60 => ?_)
                refine stI hx hb hE hP hD hS 29 rfl (vp_in_nI (n := 42) (by decide) (by decide)) rfl dX1_passDay_130 (fun H locs hP hD hS => ?_)
                obtain ⟨f61, ef61, hP, hD⟩ : ∃ fz9, fz9 = upd2 f56 18 (upd (f56 18) (42 : Int32).toNatClampNeg t60) ∧ va_P (dC, dI) vwCl (XW cy x0 x v56 fz9) H ∧ va_D A (XW cy x0 x v56 fz9) := ⟨_, rfl, hP, hD⟩
                have hA_f61 : KF [13, 14, 18] f61 f := by rw [ef61]; exact KF.up hA_f56 rfl
                refine lv_iconst (v := 0) hx hb dX1_passDay_131 (by decide) ?_
                refine lv_istore_n (lv' := [(3, .int 0), (2, .int 1), (0, .ref (x 27)), (1, .int p1)]) hx hb dX1_passDay_132 rfl hl (by decide) rfl (fun ls hl => ?_)
                refine lv_iconst (v := 0) hx hb dX1_passDay_133 (by decide) ?_
                refine lv_istore (lv' := [(4, .int 0), (3, .int 0), (2, .int 1), (0, .ref (x 27)), (1, .int p1)]) hx hb dX1_passDay_134 hl (by decide) rfl (fun ls hl => ?_)
                have lp62 : ∀ (n62 : Nat) (l3_62 : Int32) (l4_62 : Int32) (v62 : Nat → Int32) (f62 : Nat → Nat → Int32), XI v62 → v62 0 = (v 0) → v62 1 = (v 1) → v62 7 = (v 7) → v62 8 = (v 8) → v62 9 = (v 9) → v62 10 = (v 10) → v62 31 = (v 31) → v62 32 = (v 32) → gsX_X1_passDay_2_L62 NF v n62 l3_62 l4_62 v62 f62 = (gsX_X1_passDay_2 NF p1 v f) → ((0 : Int) ≤ l4_62.toInt ∧ l4_62.toInt ≤ 2147483647) → KV [] v62 v → KF [13, 14, 18] f62 f → (2147483647 - l4_62.toInt).toNat < n62 → ∀ (H : Heap) (locs : List Loc) (ls : Array Slot), va_P (dC, dI) vwCl (XW cy x0 x v62 f62) H → va_D A (XW cy x0 x v62 f62) → va_S A s.heap H locs → lv_has ls 5 [(4, .int l4_62), (3, .int l3_62), (2, .int 1), (0, .ref (x 27)), (1, .int p1)] → W p l e { frames := 5, cells := 0, slots := 0, locals := 155 } s m ([.ref (x 27), .int p1] : List Value).toArray below meth c H locs 0 0 Q (F0 m 136 ls []) := by
                  intro n62
                  induction n62 with
                  | zero => intro l3_62 l4_62 v62 f62 hIv62 hq0_v62 hq1_v62 hq7_v62 hq8_v62 hq9_v62 hq10_v62 hq31_v62 hq32_v62 hT62 hr4_62 hM_v62 hA_f62 hm; exact absurd hm (Nat.not_lt_zero _)
                  | succ n62 ih62 =>
                    intro l3_62 l4_62 v62 f62 hIv62 hq0_v62 hq1_v62 hq7_v62 hq8_v62 hq9_v62 hq10_v62 hq31_v62 hq32_v62 hT62 hr4_62 hM_v62 hA_f62 hm62 H locs ls hP hD hS hl
                    refine lv_iload hx hb dX1_passDay_136 (lv_at hl 0 rfl) ?_
                    refine lv_aload_n hx hb dX1_passDay_138 rfl (lv_at hl 3 rfl) ?_
                    refine va_get (D := (dC, dI)) (ci := 1) (v := .ref (x 26)) (C := RX1) (T := TX1) (N := 2) hx hb hts inB_1 hown hE.1 hP 28 rfl rfl 0 (by decide) (hts _ k_318) (fun _ h9 => h9) rfl dX1_passDay_139 ?_
                    refine va_getN (D := (dC, dI)) (ci := 7) (v := .int (v62 31)) (C := RX7) (T := TX7) (N := 10) hx hb hts inB_7 hown hE.1 hP 27 rfl rfl 3 (by decide) (va_Nw.use rfl (hE.2 _ k_219)) (fun _ h9 => h9) rfl dX1_passDay_142 ?_
                    refine tI (y := (v 31)) hq31_v62 ?_
                    have b31_v : 0 ≤ (v 31).toInt ∧ (v 31).toInt ≤ 6 := XI.b hIv 31 (by decide)
                    refine lv_icmp_ge (tgt := 193) hx hb dX1_passDay_145 (by decide) (fun c63 => ?_) (fun c63 => ?_)
                    · skip
                      have zc63 : (v 31).toInt ≤ l4_62.toInt := by rw [fa_le] at c63; exact c63
                      have rg64 := fb_rng l4_62
                      refine lv_iload_n hx hb dX1_passDay_193 rfl (lv_at hl 1 rfl) ?_
                      exact ret l3_62 (v62, f62) _ _ _ _ _ _ rfl ⟨(hT62.symm.trans (gsX_X1_passDay_2_q7 c63)), hM_v62, hA_f62, hIv62, hq0_v62, hq1_v62, hq7_v62, hq8_v62, hq9_v62, hq10_v62, hq31_v62, hq32_v62⟩ hP hD hS dX1_passDay_194 (Nat.le_refl _) (Nat.le_refl _)
                    · skip
                      have zc63 : ¬ ((v 31).toInt ≤ l4_62.toInt) := by rw [fa_le] at c63; exact c63
                      have rg65 := fb_rng l4_62
                      refine lv_aload_n hx hb dX1_passDay_148 rfl (lv_at hl 3 rfl) ?_
                      refine lv_iload hx hb dX1_passDay_149 (lv_at hl 0 rfl) ?_
                      refine cbVi (n := 1) (rest := []) hx hb hml hown hts hE hP hD hS hA (sX_X1_wears_2 NF l dC dI cy x0 x l4_62 v62 f62 hIv62 ) k_853 k_810 k_811 k_106 k_812 (by decide +kernel) ⟨Nat.le_of_ble_eq_true rfl, Nat.le_of_ble_eq_true rfl⟩ 28 1 rfl rfl (rfl) hl.1 rfl (Nat.le_of_ble_eq_true rfl) dX1_passDay_151 (fun r66 u H locs hw hP hD hS => ?_)
                      have hG67 := hw
                      refine lv_iconst (v := (-1)) hx hb dX1_passDay_154 (by decide) ?_
                      refine lv_icmp_eq (tgt := 187) hx hb dX1_passDay_155 (by decide) (fun c68 => ?_) (fun c68 => ?_)
                      · skip
                        have zc68 : r66.toInt = (-1) := by rw [fa_eq, show ((-1) : Int32).toInt = -1 from by decide] at c68; exact c68
                        obtain ⟨t69, et69⟩ : ∃ y : Int32, y = l4_62 + 1 := ⟨_, rfl⟩
                        have zt69 : t69.toInt = l4_62.toInt + 1 := by rw [et69]; exact add_i rfl (by decide) (by omega) (by omega)
                        refine lv_iinc (v := t69) (lv' := [(4, .int t69), (3, .int l3_62), (2, .int 1), (0, .ref (x 27)), (1, .int p1)]) hx hb dX1_passDay_187 hl (k := 0) rfl (by rw [et69]; rfl) (by decide) rfl (fun ls hl => ?_)
                        refine lv_goto (tgt := 136) hx hb dX1_passDay_190 (by decide) ?_
                        have rg70 := fb_rng t69
                        exact ih62 l3_62 t69 v62 f62 hIv62 hq0_v62 hq1_v62 hq7_v62 hq8_v62 hq9_v62 hq10_v62 hq31_v62 hq32_v62 ((gsX_X1_passDay_2_q8 c63 hG67.symm c68 et69).symm.trans hT62) ⟨show (0 : Int) ≤ t69.toInt by omega, show t69.toInt ≤ (2147483647 : Int) by omega⟩ hM_v62 hA_f62 (by show (2147483647 - t69.toInt).toNat < n62; omega) _ _ _ hP hD hS (lv_sub hl [0, 1, 2, 3, 4] rfl)
                      · skip
                        have zc68 : ¬ (r66.toInt = (-1)) := by rw [fa_eq, show ((-1) : Int32).toInt = -1 from by decide] at c68; exact c68
                        refine lv_aload_n hx hb dX1_passDay_158 rfl (lv_at hl 3 rfl) ?_
                        refine lv_iload hx hb dX1_passDay_159 (lv_at hl 0 rfl) ?_
                        refine lv_aload_n hx hb dX1_passDay_161 rfl (lv_at hl 3 rfl) ?_
                        refine lv_iload hx hb dX1_passDay_162 (lv_at hl 0 rfl) ?_
                        refine cbVi (n := 1) (rest := [.int l4_62, .ref (x 27)]) hx hb hml hown hts hE hP hD hS hA (sX_X1_wears_2 NF l dC dI cy x0 x l4_62 v62 f62 hIv62 ) k_853 k_810 k_811 k_106 k_812 (by decide +kernel) ⟨Nat.le_of_ble_eq_true rfl, Nat.le_of_ble_eq_true rfl⟩ 28 1 rfl rfl (rfl) hl.1 rfl (Nat.le_of_ble_eq_true rfl) dX1_passDay_164 (fun r71 u H locs hw hP hD hS => ?_)
                        have hG72 := hw
                        refine cbVi (n := 2) (rest := []) hx hb hml hown hts hE hP hD hS hA (sX_X1_fits_2 NF l dC dI cy x0 x l4_62 r71 v62 f62 hIv62 ) k_817 k_818 k_819 k_106 k_820 (by decide +kernel) ⟨Nat.le_of_ble_eq_true rfl, Nat.le_of_ble_eq_true rfl⟩ 28 1 rfl rfl (rfl) hl.1 rfl (Nat.le_of_ble_eq_true rfl) dX1_passDay_167 (fun r73 u H locs hw hP hD hS => ?_)
                        obtain ⟨hG74, hw⟩ := hw
                        obtain ⟨v75, f76⟩ := u
                        obtain ⟨kV_v75, kF_f76, hIv75, hk0_v75, hk1_v75, hk7_v75, hk8_v75, hk9_v75, hk10_v75, hk31_v75, hk32_v75, hw⟩ := hw
                        have hM_v75 : KV [] v75 v := KV.tr kV_v75 hM_v62 rfl
                        have hA_f76 : KF [13, 14, 18] f76 f := KF.tr kF_f76 hA_f62 rfl
                        have hP : va_P (dC, dI) vwCl (XW cy x0 x v75 f76) H := hP
                        have hD : va_D A (XW cy x0 x v75 f76) := hD
                        have hq0_v75 : v75 0 = (v 0) := hk0_v75.trans hq0_v62
                        have hq1_v75 : v75 1 = (v 1) := hk1_v75.trans hq1_v62
                        have hq7_v75 : v75 7 = (v 7) := hk7_v75.trans hq7_v62
                        have hq8_v75 : v75 8 = (v 8) := hk8_v75.trans hq8_v62
                        have hq9_v75 : v75 9 = (v 9) := hk9_v75.trans hq9_v62
                        have hq10_v75 : v75 10 = (v 10) := hk10_v75.trans hq10_v62
                        have hq31_v75 : v75 31 = (v 31) := hk31_v75.trans hq31_v62
                        have hq32_v75 : v75 32 = (v 32) := hk32_v75.trans hq32_v62
                        rcases hw with ⟨g77⟩ | ⟨g77⟩
                        · skip
                          subst g77
                          refine lv_if_ne (tgt := 187) hx hb dX1_passDay_170 (by decide) (fun _ => ?_) (fun c0 => absurd c0 (by decide))
                          obtain ⟨t78, et78⟩ : ∃ y : Int32, y = l4_62 + 1 := ⟨_, rfl⟩
                          have zt78 : t78.toInt = l4_62.toInt + 1 := by rw [et78]; exact add_i rfl (by decide) (by omega) (by omega)
                          refine lv_iinc (v := t78) (lv' := [(4, .int t78), (3, .int l3_62), (2, .int 1), (0, .ref (x 27)), (1, .int p1)]) hx hb dX1_passDay_187 hl (k := 0) rfl (by rw [et78]; rfl) (by decide) rfl (fun ls hl => ?_)
                          refine lv_goto (tgt := 136) hx hb dX1_passDay_190 (by decide) ?_
                          have rg79 := fb_rng t78
                          exact ih62 l3_62 t78 v75 f76 hIv75 hq0_v75 hq1_v75 hq7_v75 hq8_v75 hq9_v75 hq10_v75 hq31_v75 hq32_v75 ((gsX_X1_passDay_2_q9 c63 hG67.symm c68 hG72.symm hG74 et78).symm.trans hT62) ⟨show (0 : Int) ≤ t78.toInt by omega, show t78.toInt ≤ (2147483647 : Int) by omega⟩ hM_v75 hA_f76 (by show (2147483647 - t78.toInt).toNat < n62; omega) _ _ _ hP hD hS (lv_sub hl [0, 1, 2, 3, 4] rfl)
                        · skip
                          subst g77
                          refine lv_if_ne (tgt := 187) hx hb dX1_passDay_170 (by decide) (fun c0 => absurd (by decide) c0) (fun _ => ?_)
                          refine lv_aload_n hx hb dX1_passDay_173 rfl (lv_at hl 3 rfl) ?_
                          refine lv_iload hx hb dX1_passDay_174 (lv_at hl 0 rfl) ?_
                          refine lv_iconst (v := (-1)) hx hb dX1_passDay_176 (by decide) ?_
                          refine cbVv (n := 2) (rest := []) hx hb hml hown hts hE hP hD hS hA (sX_X1_setWears_2 NF l dC dI cy x0 x l4_62 (-1) v75 f76 hIv75 ) k_879 k_880 k_881 k_106 k_882 (by decide +kernel) ⟨Nat.le_of_ble_eq_true rfl, Nat.le_of_ble_eq_true rfl⟩ 28 1 rfl rfl (rfl) hl.1 rfl (Nat.le_of_ble_eq_true rfl) dX1_passDay_177 (fun u H locs hw hP hD hS => ?_)
                          obtain ⟨hG80, hw⟩ := hw
                          obtain ⟨v81, f82⟩ := u
                          obtain ⟨kV_v81, kF_f82, hIv81, hk0_v81, hk1_v81, hk7_v81, hk8_v81, hk9_v81, hk10_v81, hk31_v81, hk32_v81⟩ := hw
                          have hM_v81 : KV [] v81 v := KV.tr kV_v81 hM_v75 rfl
                          have hA_f82 : KF [13, 14, 18] f82 f := KF.tr kF_f82 hA_f76 rfl
                          have hP : va_P (dC, dI) vwCl (XW cy x0 x v81 f82) H := hP
                          have hD : va_D A (XW cy x0 x v81 f82) := hD
                          have hq0_v81 : v81 0 = (v 0) := hk0_v81.trans hq0_v75
                          have hq1_v81 : v81 1 = (v 1) := hk1_v81.trans hq1_v75
                          have hq7_v81 : v81 7 = (v 7) := hk7_v81.trans hq7_v75
                          have hq8_v81 : v81 8 = (v 8) := hk8_v81.trans hq8_v75
                          have hq9_v81 : v81 9 = (v 9) := hk9_v81.trans hq9_v75
                          have hq10_v81 : v81 10 = (v 10) := hk10_v81.trans hq10_v75
                          have hq31_v81 : v81 31 = (v 31) := hk31_v81.trans hq31_v75
                          have hq32_v81 : v81 32 = (v 32) := hk32_v81.trans hq32_v75
                          refine lv_iload_n hx hb dX1_passDay_180 rfl (lv_at hl 1 rfl) ?_
                          refine lv_iconst (v := 1) hx hb dX1_passDay_181 (by decide) ?_
                          refine lv_iload hx hb dX1_passDay_182 (lv_at hl 0 rfl) ?_
                          refine lv_ishl hx hb dX1_passDay_184 ?_
                          refine lv_topi (fun t83 et83 => ?_)
                          have zt83 : 1 ≤ t83.toInt ∧ t83.toInt ≤ 32 := by rw [et83]; exact shl1_rng (by omega) (by omega)
                          refine lv_ior hx hb dX1_passDay_185 ?_
                          refine lv_topi (fun t84 et84 => ?_)
                          refine lv_istore_n (lv' := [(3, .int t84), (4, .int l4_62), (2, .int 1), (0, .ref (x 27)), (1, .int p1)]) hx hb dX1_passDay_186 rfl hl (by decide) rfl (fun ls hl => ?_)
                          obtain ⟨t85, et85⟩ : ∃ y : Int32, y = l4_62 + 1 := ⟨_, rfl⟩
                          have zt85 : t85.toInt = l4_62.toInt + 1 := by rw [et85]; exact add_i rfl (by decide) (by omega) (by omega)
                          refine lv_iinc (v := t85) (lv' := [(4, .int t85), (3, .int t84), (2, .int 1), (0, .ref (x 27)), (1, .int p1)]) hx hb dX1_passDay_187 hl (k := 1) rfl (by rw [et85]; rfl) (by decide) rfl (fun ls hl => ?_)
                          refine lv_goto (tgt := 136) hx hb dX1_passDay_190 (by decide) ?_
                          have rg86 := fb_rng t85
                          exact ih62 t84 t85 v81 f82 hIv81 hq0_v81 hq1_v81 hq7_v81 hq8_v81 hq9_v81 hq10_v81 hq31_v81 hq32_v81 ((gsX_X1_passDay_2_q10 c63 hG67.symm c68 hG72.symm hG74 hG80 et83 et84 et85).symm.trans hT62) ⟨show (0 : Int) ≤ t85.toInt by omega, show t85.toInt ≤ (2147483647 : Int) by omega⟩ hM_v81 hA_f82 (by show (2147483647 - t85.toInt).toNat < n62; omega) _ _ _ hP hD hS (lv_sub hl [0, 1, 2, 3, 4] rfl)
                exact lp62 (4294967296 + NF) 0 0 v56 f61 hIv56 hq0_v56 hq1_v56 hq7_v56 hq8_v56 hq9_v56 hq10_v56 hq31_v56 hq32_v56 ((gsX_X1_passDay_2_q11 c57 et59 et60 ef61).symm.trans hT56) ⟨by decide, by decide⟩ hM_v56 hA_f61 (by have q4 : (0 : Int32).toInt = 0 := (by decide); have q3 : (0 : Int32).toInt = 0 := (by decide); have q2 : (1 : Int32).toInt = 1 := (by decide); show (2147483647 - (0 : Int32).toInt).toNat < 4294967296 + NF; omega) _ _ _ hP hD hS (lv_sub hl [0, 1, 2, 3, 4] rfl)
              · skip
                have zc57 : ¬ ((v 31).toInt ≤ l3_56.toInt) := by rw [fa_le] at c57; exact c57
                have rg87 := fb_rng l3_56
                refine lv_aload_n hx hb dX1_passDay_104 rfl (lv_at hl 2 rfl) ?_
                refine lv_aload_n hx hb dX1_passDay_105 rfl (lv_at hl 2 rfl) ?_
                refine lv_iload_n hx hb dX1_passDay_106 rfl (lv_at hl 0 rfl) ?_
                refine cbVi (n := 1) (rest := [.ref (x 27)]) hx hb hml hown hts hE hP hD hS hA (sX_X1_wears_2 NF l dC dI cy x0 x l3_56 v56 f56 hIv56 ) k_853 k_810 k_811 k_106 k_812 (by decide +kernel) ⟨Nat.le_of_ble_eq_true rfl, Nat.le_of_ble_eq_true rfl⟩ 28 1 rfl rfl (rfl) hl.1 rfl (Nat.le_of_ble_eq_true rfl) dX1_passDay_107 (fun r88 u H locs hw hP hD hS => ?_)
                have hG89 := hw
                refine lv_iload_n hx hb dX1_passDay_110 rfl (lv_at hl 1 rfl) ?_
                refine cbVv (n := 2) (rest := []) hx hb hml hown hts hE hP hD hS hA (sX_X1_weather_2 NF l dC dI cy x0 x r88 1 v56 f56 hIv56 ) k_870 k_872 k_20 k_106 k_873 (by decide +kernel) ⟨Nat.le_of_ble_eq_true rfl, Nat.le_of_ble_eq_true rfl⟩ 28 1 rfl rfl (rfl) hl.1 rfl (Nat.le_of_ble_eq_true rfl) dX1_passDay_111 (fun u H locs hw hP hD hS => ?_)
                obtain ⟨hG90, hw⟩ := hw
                obtain ⟨v91, f92⟩ := u
                obtain ⟨kV_v91, kF_f92, hIv91, hk0_v91, hk1_v91, hk7_v91, hk8_v91, hk9_v91, hk10_v91, hk31_v91, hk32_v91⟩ := hw
                have hM_v91 : KV [] v91 v := KV.tr kV_v91 hM_v56 rfl
                have hA_f92 : KF [13, 14, 18] f92 f := KF.tr kF_f92 hA_f56 rfl
                have hP : va_P (dC, dI) vwCl (XW cy x0 x v91 f92) H := hP
                have hD : va_D A (XW cy x0 x v91 f92) := hD
                have hq0_v91 : v91 0 = (v 0) := hk0_v91.trans hq0_v56
                have hq1_v91 : v91 1 = (v 1) := hk1_v91.trans hq1_v56
                have hq7_v91 : v91 7 = (v 7) := hk7_v91.trans hq7_v56
                have hq8_v91 : v91 8 = (v 8) := hk8_v91.trans hq8_v56
                have hq9_v91 : v91 9 = (v 9) := hk9_v91.trans hq9_v56
                have hq10_v91 : v91 10 = (v 10) := hk10_v91.trans hq10_v56
                have hq31_v91 : v91 31 = (v 31) := hk31_v91.trans hq31_v56
                have hq32_v91 : v91 32 = (v 32) := hk32_v91.trans hq32_v56
                obtain ⟨t93, et93⟩ : ∃ y : Int32, y = l3_56 + 1 := ⟨_, rfl⟩
                have zt93 : t93.toInt = l3_56.toInt + 1 := by rw [et93]; exact add_i rfl (by decide) (by omega) (by omega)
                refine lv_iinc (v := t93) (lv' := [(3, .int t93), (2, .int 1), (0, .ref (x 27)), (1, .int p1)]) hx hb dX1_passDay_114 hl (k := 0) rfl (by rw [et93]; rfl) (by decide) rfl (fun ls hl => ?_)
                refine lv_goto (tgt := 93) hx hb dX1_passDay_117 (by decide) ?_
                have rg94 := fb_rng t93
                exact ih56 t93 v91 f92 hIv91 hq0_v91 hq1_v91 hq7_v91 hq8_v91 hq9_v91 hq10_v91 hq31_v91 hq32_v91 ((gsX_X1_passDay_2_q12 c57 hG89.symm hG90 et93).symm.trans hT56) ⟨show (0 : Int) ≤ t93.toInt by omega, show t93.toInt ≤ (2147483647 : Int) by omega⟩ hM_v91 hA_f92 (by show (2147483647 - t93.toInt).toNat < n56; omega) _ _ _ hP hD hS (lv_sub hl [0, 1, 2, 3] rfl)
          exact lp56 (4294967296 + NF) 0 v1 f9 hIv1 hq0_v1 hq1_v1 hq7_v1 hq8_v1 hq9_v1 hq10_v1 hq31_v1 hq32_v1 ((gsX_X1_passDay_2_q13 c2 et5 et6 et7 et8 ef9 et10 et11 c12).symm.trans hT1) ⟨by decide, by decide⟩ hM_v1 hA_f9 (by have q3 : (0 : Int32).toInt = 0 := (by decide); have q2 : (1 : Int32).toInt = 1 := (by decide); show (2147483647 - (0 : Int32).toInt).toNat < 4294967296 + NF; omega) _ _ _ hP hD hS (lv_sub hl [0, 1, 2, 3] rfl)
      · skip
        have zc2 : ¬ ((v 31).toInt ≤ l2_1.toInt) := by rw [fa_le] at c2; exact c2
        have rg95 := fb_rng l2_1
        have rg96 := fb_rng (v 31)
        refine lv_aload_n hx hb dX1_passDay_13 rfl (lv_at hl 1 rfl) ?_
        refine va_get (D := (dC, dI)) (ci := 1) (v := .ref (x 28)) (C := RX1) (T := TX1) (N := 2) hx hb hts inB_1 hown hE.1 hP 28 rfl rfl 1 (by decide) (hts _ k_319) (fun _ h9 => h9) rfl dX1_passDay_14 ?_
        refine lv_iload_n hx hb dX1_passDay_17 rfl (lv_at hl 0 rfl) ?_
        refine lv_bipush (v := 99) hx hb dX1_passDay_18 (by decide) ?_
        refine lv_aload_n hx hb dX1_passDay_20 rfl (lv_at hl 1 rfl) ?_
        refine va_get (D := (dC, dI)) (ci := 1) (v := .ref (x 28)) (C := RX1) (T := TX1) (N := 2) hx hb hts inB_1 hown hE.1 hP 28 rfl rfl 1 (by decide) (hts _ k_319) (fun _ h9 => h9) rfl dX1_passDay_21 ?_
        refine lv_iload_n hx hb dX1_passDay_24 rfl (lv_at hl 0 rfl) ?_
        refine ldI hx hb hE hP 29 rfl (vp_in_iff.mpr ⟨by omega, by omega⟩) rfl rfl dX1_passDay_25 ?_
        refine lv_topi (fun t97 et97 => ?_)
        refine lv_aload_n hx hb dX1_passDay_26 rfl (lv_at hl 1 rfl) ?_
        refine va_get (D := (dC, dI)) (ci := 1) (v := .ref (x 26)) (C := RX1) (T := TX1) (N := 2) hx hb hts inB_1 hown hE.1 hP 28 rfl rfl 0 (by decide) (hts _ k_318) (fun _ h9 => h9) rfl dX1_passDay_27 ?_
        refine lv_iconst (v := 2) hx hb dX1_passDay_30 (by decide) ?_
        refine lv_iload_n hx hb dX1_passDay_31 rfl (lv_at hl 0 rfl) ?_
        refine cbVi (n := 2) (rest := [.int t97, .int 99, .int l2_1, .ref (x 28)]) hx hb hml hown hts hE hP hD hS hA (sX_X7_manPart_1 NF l dC dI cy x0 x 2 l2_1 v1 f1 hIv1 ) k_302 k_303 k_304 k_104 k_305 (by decide +kernel) ⟨Nat.le_of_ble_eq_true rfl, Nat.le_of_ble_eq_true rfl⟩ 27 7 rfl rfl (rfl) hl.1 rfl (Nat.le_of_ble_eq_true rfl) dX1_passDay_32 (fun r98 u H locs hw hP hD hS => ?_)
        have hG99 := hw
        refine lv_iadd hx hb dX1_passDay_35 ?_
        refine lv_topi (fun t100 et100 => ?_)
        refine va_mmin hx hb (by rw [hml]; exact hl.1.symm) hown (hts _ k_869) (hts _ k_643) (hts _ k_119) (hts _ k_644) (Nat.le_of_ble_eq_true rfl) (Nat.le_of_ble_eq_true rfl) (Nat.le_of_ble_eq_true rfl) (Nat.le_of_ble_eq_true rfl) dX1_passDay_36 ?_
        refine lv_topi (fun t101 et101 => ?_)
        have zt101 : t101.toInt = min (99) (t100.toInt) := by rw [et101]; exact mmin_i (by decide) rfl
        refine stI hx hb hE hP hD hS 29 rfl (vp_in_iff.mpr ⟨by omega, by omega⟩) rfl dX1_passDay_39 (fun H locs hP hD hS => ?_)
        obtain ⟨f102, ef102, hP, hD⟩ : ∃ fz9, fz9 = upd2 f1 18 (upd (f1 18) l2_1.toNatClampNeg t101) ∧ va_P (dC, dI) vwCl (XW cy x0 x v1 fz9) H ∧ va_D A (XW cy x0 x v1 fz9) := ⟨_, rfl, hP, hD⟩
        have hA_f102 : KF [13, 14, 18] f102 f := by rw [ef102]; exact KF.up hA_f1 rfl
        obtain ⟨t103, et103⟩ : ∃ y : Int32, y = l2_1 + 1 := ⟨_, rfl⟩
        have zt103 : t103.toInt = l2_1.toInt + 1 := by rw [et103]; exact add_i rfl (by decide) (by omega) (by omega)
        refine lv_iinc (v := t103) (lv' := [(2, .int t103), (0, .ref (x 27)), (1, .int p1)]) hx hb dX1_passDay_40 hl (k := 0) rfl (by rw [et103]; rfl) (by decide) rfl (fun ls hl => ?_)
        refine lv_goto (tgt := 2) hx hb dX1_passDay_43 (by decide) ?_
        have rg104 := fb_rng t103
        exact ih1 t103 v1 f102 hIv1 hq0_v1 hq1_v1 hq7_v1 hq8_v1 hq9_v1 hq10_v1 hq31_v1 hq32_v1 ((gsX_X1_passDay_2_q14 c2 et97 hG99.symm et100 et101 ef102 et103).symm.trans hT1) ⟨show (0 : Int) ≤ t103.toInt by omega, show t103.toInt ≤ (2147483647 : Int) by omega⟩ hM_v1 hA_f102 (by show (2147483647 - t103.toInt).toNat < n1; omega) _ _ _ hP hD hS (lv_sub hl [0, 1, 2] rfl)
  exact lp1 (4294967296 + NF) 0 v f hIv rfl rfl rfl rfl rfl rfl rfl rfl gsX_X1_passDay_2_q15.symm ⟨by decide, by decide⟩ hM_v hA_f (by have q2 : (0 : Int32).toInt = 0 := (by decide); show (2147483647 - (0 : Int32).toInt).toNat < 4294967296 + NF; omega) _ _ _ hP hD hS (lv_sub hl [0, 1, 2] rfl)
set_option maxHeartbeats 4000000 in
set_option maxRecDepth 100000 in
theorem sX_X3_coatBehind_1 (l : Launch) (dC : Nat → ClassId) (dI : Nat → Nat → Nat) (cy : Nat → ClassId) (x0 : Nat) (x : Nat → Nat) (p1 : Int32) (p2 : Int32) (p3 : Int32) (v : Nat → Int32) (f : Nat → Nat → Int32) (hIv : XI v)  : ctI l (dC, dI) cy yX3_coatBehind cX3_coatBehind 5 .int 6 179 0 0 ((Nat → Int32) × (Nat → Nat → Int32)) [.ref (x 25), .int p1, .int p2, .int p3] (XW cy x0 x v f) (fun r u => KV [] u.1 v ∧ KF [13, 14, 18] u.2 f ∧ XI u.1 ∧ u.1 0 = v 0 ∧ u.1 1 = v 1 ∧ u.1 7 = v 7 ∧ u.1 8 = v 8 ∧ u.1 9 = v 9 ∧ u.1 10 = v 10 ∧ u.1 31 = v 31 ∧ u.1 32 = v 32) (fun u => XW cy x0 x u.1 u.2) := by
  refine ctI_of (by decide) (Nat.le_of_ble_eq_true rfl) (fun p e s m below meth c A ls Q hx hb hml hts hown hE hP hD hA hl ret => ?_)
  have hM_v : KV [] v v := fun _ _ => rfl
  have hA_f : KF [13, 14, 18] f f := fun _ _ => rfl
  have hown : s.vm.findClass RX3 = some m.cls := hown
  have hS : va_S A s.heap s.heap [] := va_S.rf
  have hl : lv_has ls 5 [(0, .ref (x 25)), (1, .int p1), (2, .int p2), (3, .int p3)] := hl
  refine lv_aload_n hx hb dX3_coatBehind_0 rfl (lv_at hl 0 rfl) ?_
  refine va_get (D := (dC, dI)) (ci := 3) (v := .ref (x 27)) (C := RX3) (T := TX3) (N := 10) hx hb hts inB_3 hown hE.1 hP 26 rfl rfl 2 (by decide) (hts _ k_372) (fun _ h9 => h9) rfl dX3_coatBehind_1 ?_
  refine lv_aload_n hx hb dX3_coatBehind_4 rfl (lv_at hl 0 rfl) ?_
  refine va_get (D := (dC, dI)) (ci := 3) (v := .ref (x 21)) (C := RX3) (T := TX3) (N := 10) hx hb hts inB_3 hown hE.1 hP 26 rfl rfl 1 (by decide) (hts _ k_371) (fun _ h9 => h9) rfl dX3_coatBehind_5 ?_
  refine cbVv (n := 1) (rest := []) hx hb hml hown hts hE hP hD hS hA (sX_X1_copy_1 l dC dI cy x0 x  v f hIv ) k_945 k_946 k_947 k_106 k_948 (by decide +kernel) ⟨Nat.le_of_ble_eq_true rfl, Nat.le_of_ble_eq_true rfl⟩ 28 1 rfl rfl (rfl) hl.1 rfl (Nat.le_of_ble_eq_true rfl) dX3_coatBehind_8 (fun u H locs hw hP hD hS => ?_)
  obtain ⟨v1, f2⟩ := u
  obtain ⟨kV_v1, kF_f2, hIv1, hk0_v1, hk1_v1, hk7_v1, hk8_v1, hk9_v1, hk10_v1, hk31_v1, hk32_v1⟩ := hw
  have hM_v1 : KV [] v1 v := KV.tr kV_v1 hM_v rfl
  have hA_f2 : KF [13, 14, 18] f2 f := KF.tr kF_f2 hA_f rfl
  have hP : va_P (dC, dI) vwCl (XW cy x0 x v1 f2) H := hP
  have hD : va_D A (XW cy x0 x v1 f2) := hD
  have hq0_v1 : v1 0 = (v 0) := hk0_v1
  have hq1_v1 : v1 1 = (v 1) := hk1_v1
  have hq7_v1 : v1 7 = (v 7) := hk7_v1
  have hq8_v1 : v1 8 = (v 8) := hk8_v1
  have hq9_v1 : v1 9 = (v 9) := hk9_v1
  have hq10_v1 : v1 10 = (v 10) := hk10_v1
  have hq31_v1 : v1 31 = (v 31) := hk31_v1
  have hq32_v1 : v1 32 = (v 32) := hk32_v1
  refine lv_iconst (v := 0) hx hb dX3_coatBehind_11 (by decide) ?_
  refine lv_istore (lv' := [(4, .int 0), (0, .ref (x 25)), (1, .int p1), (2, .int p2), (3, .int p3)]) hx hb dX3_coatBehind_12 hl (by decide) rfl (fun ls hl => ?_)
  have lp3 : ∀ (n3 : Nat) (l4_3 : Int32) (v3 : Nat → Int32) (f3 : Nat → Nat → Int32), XI v3 → v3 0 = (v 0) → v3 1 = (v 1) → v3 7 = (v 7) → v3 8 = (v 8) → v3 9 = (v 9) → v3 10 = (v 10) → v3 31 = (v 31) → v3 32 = (v 32) → ((0 : Int) ≤ l4_3.toInt ∧ l4_3.toInt ≤ 2147483647) → KV [] v3 v → KF [13, 14, 18] f3 f → (2147483647 - l4_3.toInt).toNat < n3 → ∀ (H : Heap) (locs : List Loc) (ls : Array Slot), va_P (dC, dI) vwCl (XW cy x0 x v3 f3) H → va_D A (XW cy x0 x v3 f3) → va_S A s.heap H locs → lv_has ls 5 [(4, .int l4_3), (0, .ref (x 25)), (1, .int p1), (2, .int p2), (3, .int p3)] → W p l e { frames := 6, cells := 0, slots := 0, locals := 179 } s m ([.ref (x 25), .int p1, .int p2, .int p3] : List Value).toArray below meth c H locs 0 0 Q (F0 m 14 ls []) := by
    intro n3
    induction n3 with
    | zero => intro l4_3 v3 f3 hIv3 hq0_v3 hq1_v3 hq7_v3 hq8_v3 hq9_v3 hq10_v3 hq31_v3 hq32_v3 hr4_3 hM_v3 hA_f3 hm; exact absurd hm (Nat.not_lt_zero _)
    | succ n3 ih3 =>
      intro l4_3 v3 f3 hIv3 hq0_v3 hq1_v3 hq7_v3 hq8_v3 hq9_v3 hq10_v3 hq31_v3 hq32_v3 hr4_3 hM_v3 hA_f3 hm3 H locs ls hP hD hS hl
      refine lv_iload hx hb dX3_coatBehind_14 (lv_at hl 0 rfl) ?_
      refine lv_iload_n hx hb dX3_coatBehind_16 rfl (lv_at hl 3 rfl) ?_
      refine lv_icmp_ge (tgt := 35) hx hb dX3_coatBehind_17 (by decide) (fun c4 => ?_) (fun c4 => ?_)
      · skip
        have zc4 : p2.toInt ≤ l4_3.toInt := by rw [fa_le] at c4; exact c4
        have rg5 := fb_rng l4_3
        have rg6 := fb_rng p2
        refine lv_aload_n hx hb dX3_coatBehind_35 rfl (lv_at hl 1 rfl) ?_
        refine va_get (D := (dC, dI)) (ci := 3) (v := .ref (x 27)) (C := RX3) (T := TX3) (N := 10) hx hb hts inB_3 hown hE.1 hP 26 rfl rfl 2 (by decide) (hts _ k_372) (fun _ h9 => h9) rfl dX3_coatBehind_36 ?_
        refine lv_iload_n hx hb dX3_coatBehind_39 rfl (lv_at hl 2 rfl) ?_
        refine cbVi (n := 1) (rest := []) hx hb hml hown hts hE hP hD hS hA (sX_X1_wears_2 0 l dC dI cy x0 x p1 v3 f3 hIv3 ) k_950 k_810 k_811 k_106 k_812 (by decide +kernel) ⟨Nat.le_of_ble_eq_true rfl, Nat.le_of_ble_eq_true rfl⟩ 28 1 rfl rfl (rfl) hl.1 rfl (Nat.le_of_ble_eq_true rfl) dX3_coatBehind_40 (fun r7 u H locs hw hP hD hS => ?_)
        have hG8 := hw
        exact ret r7 (v3, f3) _ _ _ _ _ _ rfl ⟨hM_v3, hA_f3, hIv3, hq0_v3, hq1_v3, hq7_v3, hq8_v3, hq9_v3, hq10_v3, hq31_v3, hq32_v3⟩ hP hD hS dX3_coatBehind_43 (Nat.le_refl _) (Nat.le_refl _)
      · skip
        have zc4 : ¬ (p2.toInt ≤ l4_3.toInt) := by rw [fa_le] at c4; exact c4
        have rg9 := fb_rng l4_3
        have rg10 := fb_rng p2
        refine lv_aload_n hx hb dX3_coatBehind_20 rfl (lv_at hl 1 rfl) ?_
        refine va_get (D := (dC, dI)) (ci := 3) (v := .ref (x 27)) (C := RX3) (T := TX3) (N := 10) hx hb hts inB_3 hown hE.1 hP 26 rfl rfl 2 (by decide) (hts _ k_372) (fun _ h9 => h9) rfl dX3_coatBehind_21 ?_
        refine lv_iload_n hx hb dX3_coatBehind_24 rfl (lv_at hl 4 rfl) ?_
        refine cbVi (n := 1) (rest := []) hx hb hml hown hts hE hP hD hS hA (sX_X1_passDay_2 0 l dC dI cy x0 x p3 v3 f3 hIv3 ) k_949 k_866 k_867 k_106 k_868 (by decide +kernel) ⟨Nat.le_of_ble_eq_true rfl, Nat.le_of_ble_eq_true rfl⟩ 28 1 rfl rfl (rfl) hl.1 rfl (Nat.le_of_ble_eq_true rfl) dX3_coatBehind_25 (fun r11 u H locs hw hP hD hS => ?_)
        obtain ⟨hG12, hw⟩ := hw
        obtain ⟨v13, f14⟩ := u
        obtain ⟨kV_v13, kF_f14, hIv13, hk0_v13, hk1_v13, hk7_v13, hk8_v13, hk9_v13, hk10_v13, hk31_v13, hk32_v13⟩ := hw
        have hM_v13 : KV [] v13 v := KV.tr kV_v13 hM_v3 rfl
        have hA_f14 : KF [13, 14, 18] f14 f := KF.tr kF_f14 hA_f3 rfl
        have hP : va_P (dC, dI) vwCl (XW cy x0 x v13 f14) H := hP
        have hD : va_D A (XW cy x0 x v13 f14) := hD
        have hq0_v13 : v13 0 = (v 0) := hk0_v13.trans hq0_v3
        have hq1_v13 : v13 1 = (v 1) := hk1_v13.trans hq1_v3
        have hq7_v13 : v13 7 = (v 7) := hk7_v13.trans hq7_v3
        have hq8_v13 : v13 8 = (v 8) := hk8_v13.trans hq8_v3
        have hq9_v13 : v13 9 = (v 9) := hk9_v13.trans hq9_v3
        have hq10_v13 : v13 10 = (v 10) := hk10_v13.trans hq10_v3
        have hq31_v13 : v13 31 = (v 31) := hk31_v13.trans hq31_v3
        have hq32_v13 : v13 32 = (v 32) := hk32_v13.trans hq32_v3
        refine lv_pop hx hb dX3_coatBehind_28 rfl ?_
        obtain ⟨t15, et15⟩ : ∃ y : Int32, y = l4_3 + 1 := ⟨_, rfl⟩
        have zt15 : t15.toInt = l4_3.toInt + 1 := by rw [et15]; exact add_i rfl (by decide) (by omega) (by omega)
        refine lv_iinc (v := t15) (lv' := [(4, .int t15), (0, .ref (x 25)), (1, .int p1), (2, .int p2), (3, .int p3)]) hx hb dX3_coatBehind_29 hl (k := 0) rfl (by rw [et15]; rfl) (by decide) rfl (fun ls hl => ?_)
        refine lv_goto (tgt := 14) hx hb dX3_coatBehind_32 (by decide) ?_
        have rg16 := fb_rng t15
        exact ih3 t15 v13 f14 hIv13 hq0_v13 hq1_v13 hq7_v13 hq8_v13 hq9_v13 hq10_v13 hq31_v13 hq32_v13 ⟨show (0 : Int) ≤ t15.toInt by omega, show t15.toInt ≤ (2147483647 : Int) by omega⟩ hM_v13 hA_f14 (by show (2147483647 - t15.toInt).toNat < n3; omega) _ _ _ hP hD hS (lv_sub hl [0, 1, 2, 3, 4] rfl)
  exact lp3 _ 0 v1 f2 hIv1 hq0_v1 hq1_v1 hq7_v1 hq8_v1 hq9_v1 hq10_v1 hq31_v1 hq32_v1 ⟨by decide, by decide⟩ hM_v1 hA_f2 (Nat.lt_succ_self _) _ _ _ hP hD hS (lv_sub hl [0, 1, 2, 3, 4] rfl)
set_option maxHeartbeats 4000000 in
set_option maxRecDepth 100000 in
theorem sX_X10_will_1 (l : Launch) (dC : Nat → ClassId) (dI : Nat → Nat → Nat) (cy : Nat → ClassId) (x0 : Nat) (x : Nat → Nat) (p1 : Int32) (p2 : Int32) (p3 : Int32) (v : Nat → Int32) (f : Nat → Nat → Int32) (hIv : XI v)  : ctI l (dC, dI) cy yX10_will cX10_will 4 .int 7 203 0 0 ((Nat → Int32) × (Nat → Nat → Int32)) [.ref x0, .int p1, .int p2, .int p3] (XW cy x0 x v f) (fun r u => KV [] u.1 v ∧ KF [13, 14, 18] u.2 f ∧ XI u.1 ∧ u.1 0 = v 0 ∧ u.1 1 = v 1 ∧ u.1 7 = v 7 ∧ u.1 8 = v 8 ∧ u.1 9 = v 9 ∧ u.1 10 = v 10 ∧ u.1 31 = v 31 ∧ u.1 32 = v 32) (fun u => XW cy x0 x u.1 u.2) := by
  refine ctI_of (by decide) (Nat.le_of_ble_eq_true rfl) (fun p e s m below meth c A ls Q hx hb hml hts hown hE hP hD hA hl ret => ?_)
  have hM_v : KV [] v v := fun _ _ => rfl
  have hA_f : KF [13, 14, 18] f f := fun _ _ => rfl
  have hown : s.vm.findClass RX10 = some m.cls := hown
  have hS : va_S A s.heap s.heap [] := va_S.rf
  have hl : lv_has ls 4 [(0, .ref x0), (1, .int p1), (2, .int p2), (3, .int p3)] := hl
  refine lv_aload_n hx hb dX10_will_0 rfl (lv_at hl 0 rfl) ?_
  refine va_get (D := (dC, dI)) (ci := 10) (v := .ref (x 26)) (C := RX10) (T := TX10) (N := 10) hx hb hts inB_10 hown hE.1 hP 0 rfl rfl 2 (by decide) (hts _ k_493) (fun _ h9 => h9) rfl dX10_will_1 ?_
  refine lv_iload_n hx hb dX10_will_4 rfl (lv_at hl 1 rfl) ?_
  refine cbVi (n := 1) (rest := []) hx hb hml hown hts hE hP hD hS hA (sX_X7_hasMan_1 0 l dC dI cy x0 x p1 v f hIv ) k_802 k_307 k_308 k_104 k_309 (by decide +kernel) ⟨Nat.le_of_ble_eq_true rfl, Nat.le_of_ble_eq_true rfl⟩ 27 7 rfl rfl (rfl) hl.1 rfl (Nat.le_of_ble_eq_true rfl) dX10_will_5 (fun r1 u H locs hw hP hD hS => ?_)
  obtain ⟨hG2, hw⟩ := hw
  rcases hw with ⟨g3, g3_0, g3_1, g3_2⟩ | ⟨g3⟩
  · skip
    subst g3
    refine lv_if_eq (tgt := 30) hx hb dX10_will_8 (by decide) (fun c0 => absurd c0 (by decide)) (fun _ => ?_)
    refine lv_iload_n hx hb dX10_will_11 rfl (lv_at hl 2 rfl) ?_
    refine lv_if_lt (tgt := 30) hx hb dX10_will_12 (by decide) (fun c4 => ?_) (fun c4 => ?_)
    · skip
      have zc4 : p2.toInt < 0 := by rw [fa_lt, show (0 : Int32).toInt = 0 from by decide] at c4; exact c4
      refine lv_bipush (v := (-2)) hx hb dX10_will_30 (by decide) ?_
      exact ret (-2) (v, f) _ _ _ _ _ _ rfl ⟨hM_v, hA_f, hIv, rfl, rfl, rfl, rfl, rfl, rfl, rfl, rfl⟩ hP hD hS dX10_will_32 (Nat.le_refl _) (Nat.le_refl _)
    · skip
      have zc4 : ¬ (p2.toInt < 0) := by rw [fa_lt, show (0 : Int32).toInt = 0 from by decide] at c4; exact c4
      refine lv_iload_n hx hb dX10_will_15 rfl (lv_at hl 2 rfl) ?_
      refine lv_bipush (v := 60) hx hb dX10_will_16 (by decide) ?_
      refine lv_icmp_gt (tgt := 30) hx hb dX10_will_18 (by decide) (fun c5 => ?_) (fun c5 => ?_)
      · skip
        have zc5 : 60 < p2.toInt := by rw [fa_lt, show (60 : Int32).toInt = 60 from by decide] at c5; exact c5
        refine lv_bipush (v := (-2)) hx hb dX10_will_30 (by decide) ?_
        exact ret (-2) (v, f) _ _ _ _ _ _ rfl ⟨hM_v, hA_f, hIv, rfl, rfl, rfl, rfl, rfl, rfl, rfl, rfl⟩ hP hD hS dX10_will_32 (Nat.le_refl _) (Nat.le_refl _)
      · skip
        have zc5 : ¬ (60 < p2.toInt) := by rw [fa_lt, show (60 : Int32).toInt = 60 from by decide] at c5; exact c5
        refine lv_iload_n hx hb dX10_will_21 rfl (lv_at hl 3 rfl) ?_
        refine lv_if_lt (tgt := 30) hx hb dX10_will_22 (by decide) (fun c6 => ?_) (fun c6 => ?_)
        · skip
          have zc6 : p3.toInt < 0 := by rw [fa_lt, show (0 : Int32).toInt = 0 from by decide] at c6; exact c6
          refine lv_bipush (v := (-2)) hx hb dX10_will_30 (by decide) ?_
          exact ret (-2) (v, f) _ _ _ _ _ _ rfl ⟨hM_v, hA_f, hIv, rfl, rfl, rfl, rfl, rfl, rfl, rfl, rfl⟩ hP hD hS dX10_will_32 (Nat.le_refl _) (Nat.le_refl _)
        · skip
          have zc6 : ¬ (p3.toInt < 0) := by rw [fa_lt, show (0 : Int32).toInt = 0 from by decide] at c6; exact c6
          refine lv_iload_n hx hb dX10_will_25 rfl (lv_at hl 3 rfl) ?_
          refine lv_iconst (v := 1) hx hb dX10_will_26 (by decide) ?_
          refine lv_icmp_le (tgt := 33) hx hb dX10_will_27 (by decide) (fun c7 => ?_) (fun c7 => ?_)
          · skip
            have zc7 : p3.toInt ≤ 1 := by rw [fa_le, show (1 : Int32).toInt = 1 from by decide] at c7; exact c7
            refine lv_aload_n hx hb dX10_will_33 rfl (lv_at hl 0 rfl) ?_
            refine va_get (D := (dC, dI)) (ci := 10) (v := .ref (x 25)) (C := RX10) (T := TX10) (N := 10) hx hb hts inB_10 hown hE.1 hP 0 rfl rfl 5 (by decide) (hts _ k_496) (fun _ h9 => h9) rfl dX10_will_34 ?_
            refine lv_iload_n hx hb dX10_will_37 rfl (lv_at hl 1 rfl) ?_
            refine lv_iload_n hx hb dX10_will_38 rfl (lv_at hl 2 rfl) ?_
            refine lv_iload_n hx hb dX10_will_39 rfl (lv_at hl 3 rfl) ?_
            refine lv_iconst (v := 1) hx hb dX10_will_40 (by decide) ?_
            refine lv_icmp_ne (tgt := 54) hx hb dX10_will_41 (by decide) (fun c8 => ?_) (fun c8 => ?_)
            · skip
              have zc8 : ¬ (p3.toInt = 1) := by rw [fa_eq, show (1 : Int32).toInt = 1 from by decide] at c8; exact c8
              refine lv_iconst (v := 0) hx hb dX10_will_54 (by decide) ?_
              refine cbVi (n := 3) (rest := []) hx hb hml hown hts hE hP hD hS hA (sX_X3_coatBehind_1 l dC dI cy x0 x p1 p2 0 v f hIv ) k_941 k_942 k_943 k_109 k_944 (by decide +kernel) ⟨Nat.le_of_ble_eq_true rfl, Nat.le_of_ble_eq_true rfl⟩ 26 3 rfl rfl (rfl) hl.1 rfl (Nat.le_of_ble_eq_true rfl) dX10_will_55 (fun r9 u H locs hw hP hD hS => ?_)
              obtain ⟨v10, f11⟩ := u
              obtain ⟨kV_v10, kF_f11, hIv10, hk0_v10, hk1_v10, hk7_v10, hk8_v10, hk9_v10, hk10_v10, hk31_v10, hk32_v10⟩ := hw
              have hM_v10 : KV [] v10 v := KV.tr kV_v10 hM_v rfl
              have hA_f11 : KF [13, 14, 18] f11 f := KF.tr kF_f11 hA_f rfl
              have hP : va_P (dC, dI) vwCl (XW cy x0 x v10 f11) H := hP
              have hD : va_D A (XW cy x0 x v10 f11) := hD
              have hq0_v10 : v10 0 = (v 0) := hk0_v10
              have hq1_v10 : v10 1 = (v 1) := hk1_v10
              have hq7_v10 : v10 7 = (v 7) := hk7_v10
              have hq8_v10 : v10 8 = (v 8) := hk8_v10
              have hq9_v10 : v10 9 = (v 9) := hk9_v10
              have hq10_v10 : v10 10 = (v 10) := hk10_v10
              have hq31_v10 : v10 31 = (v 31) := hk31_v10
              have hq32_v10 : v10 32 = (v 32) := hk32_v10
              exact ret r9 (v10, f11) _ _ _ _ _ _ rfl ⟨hM_v10, hA_f11, hIv10, hk0_v10, hk1_v10, hk7_v10, hk8_v10, hk9_v10, hk10_v10, hk31_v10, hk32_v10⟩ hP hD hS dX10_will_58 (Nat.le_refl _) (Nat.le_refl _)
            · skip
              have zc8 : p3.toInt = 1 := by rw [fa_eq, show (1 : Int32).toInt = 1 from by decide] at c8; exact c8
              refine lv_aload_n hx hb dX10_will_44 rfl (lv_at hl 0 rfl) ?_
              refine va_get (D := (dC, dI)) (ci := 10) (v := .ref (x 26)) (C := RX10) (T := TX10) (N := 10) hx hb hts inB_10 hown hE.1 hP 0 rfl rfl 2 (by decide) (hts _ k_493) (fun _ h9 => h9) rfl dX10_will_45 ?_
              refine va_getN (D := (dC, dI)) (ci := 7) (v := .int (v 36)) (C := RX7) (T := TX7) (N := 10) hx hb hts inB_7 hown hE.1 hP 27 rfl rfl 8 (by decide) (va_Nw.use rfl (hE.2 _ k_241)) (fun _ h9 => h9) rfl dX10_will_48 ?_
              refine lv_goto (tgt := 55) hx hb dX10_will_51 (by decide) ?_
              refine cbVi (n := 3) (rest := []) hx hb hml hown hts hE hP hD hS hA (sX_X3_coatBehind_1 l dC dI cy x0 x p1 p2 (v 36) v f hIv ) k_941 k_942 k_943 k_109 k_944 (by decide +kernel) ⟨Nat.le_of_ble_eq_true rfl, Nat.le_of_ble_eq_true rfl⟩ 26 3 rfl rfl (rfl) hl.1 rfl (Nat.le_of_ble_eq_true rfl) dX10_will_55 (fun r12 u H locs hw hP hD hS => ?_)
              obtain ⟨v13, f14⟩ := u
              obtain ⟨kV_v13, kF_f14, hIv13, hk0_v13, hk1_v13, hk7_v13, hk8_v13, hk9_v13, hk10_v13, hk31_v13, hk32_v13⟩ := hw
              have hM_v13 : KV [] v13 v := KV.tr kV_v13 hM_v rfl
              have hA_f14 : KF [13, 14, 18] f14 f := KF.tr kF_f14 hA_f rfl
              have hP : va_P (dC, dI) vwCl (XW cy x0 x v13 f14) H := hP
              have hD : va_D A (XW cy x0 x v13 f14) := hD
              have hq0_v13 : v13 0 = (v 0) := hk0_v13
              have hq1_v13 : v13 1 = (v 1) := hk1_v13
              have hq7_v13 : v13 7 = (v 7) := hk7_v13
              have hq8_v13 : v13 8 = (v 8) := hk8_v13
              have hq9_v13 : v13 9 = (v 9) := hk9_v13
              have hq10_v13 : v13 10 = (v 10) := hk10_v13
              have hq31_v13 : v13 31 = (v 31) := hk31_v13
              have hq32_v13 : v13 32 = (v 32) := hk32_v13
              exact ret r12 (v13, f14) _ _ _ _ _ _ rfl ⟨hM_v13, hA_f14, hIv13, hk0_v13, hk1_v13, hk7_v13, hk8_v13, hk9_v13, hk10_v13, hk31_v13, hk32_v13⟩ hP hD hS dX10_will_58 (Nat.le_refl _) (Nat.le_refl _)
          · skip
            have zc7 : ¬ (p3.toInt ≤ 1) := by rw [fa_le, show (1 : Int32).toInt = 1 from by decide] at c7; exact c7
            refine lv_bipush (v := (-2)) hx hb dX10_will_30 (by decide) ?_
            exact ret (-2) (v, f) _ _ _ _ _ _ rfl ⟨hM_v, hA_f, hIv, rfl, rfl, rfl, rfl, rfl, rfl, rfl, rfl⟩ hP hD hS dX10_will_32 (Nat.le_refl _) (Nat.le_refl _)
  · skip
    subst g3
    refine lv_if_eq (tgt := 30) hx hb dX10_will_8 (by decide) (fun _ => ?_) (fun c0 => absurd (by decide) c0)
    refine lv_bipush (v := (-2)) hx hb dX10_will_30 (by decide) ?_
    exact ret (-2) (v, f) _ _ _ _ _ _ rfl ⟨hM_v, hA_f, hIv, rfl, rfl, rfl, rfl, rfl, rfl, rfl, rfl⟩ hP hD hS dX10_will_32 (Nat.le_refl _) (Nat.le_refl _)
set_option maxHeartbeats 4000000 in
set_option maxRecDepth 100000 in
theorem sX_X3_daysTillOut_1 (l : Launch) (dC : Nat → ClassId) (dI : Nat → Nat → Nat) (cy : Nat → ClassId) (x0 : Nat) (x : Nat → Nat) (p1 : Int32) (v : Nat → Int32) (f : Nat → Nat → Int32) (hIv : XI v)  : ctI l (dC, dI) cy yX3_daysTillOut cX3_daysTillOut 3 .int 6 179 0 0 ((Nat → Int32) × (Nat → Nat → Int32)) [.ref (x 25), .int p1] (XW cy x0 x v f) (fun r u => KV [] u.1 v ∧ KF [13, 14, 18] u.2 f ∧ XI u.1 ∧ u.1 0 = v 0 ∧ u.1 1 = v 1 ∧ u.1 7 = v 7 ∧ u.1 8 = v 8 ∧ u.1 9 = v 9 ∧ u.1 10 = v 10 ∧ u.1 31 = v 31 ∧ u.1 32 = v 32) (fun u => XW cy x0 x u.1 u.2) := by
  refine ctI_of (by decide) (Nat.le_of_ble_eq_true rfl) (fun p e s m below meth c A ls Q hx hb hml hts hown hE hP hD hA hl ret => ?_)
  have hM_v : KV [] v v := fun _ _ => rfl
  have hA_f : KF [13, 14, 18] f f := fun _ _ => rfl
  have hown : s.vm.findClass RX3 = some m.cls := hown
  have hS : va_S A s.heap s.heap [] := va_S.rf
  have hl : lv_has ls 3 [(0, .ref (x 25)), (1, .int p1)] := hl
  refine lv_aload_n hx hb dX3_daysTillOut_0 rfl (lv_at hl 0 rfl) ?_
  refine va_get (D := (dC, dI)) (ci := 3) (v := .ref (x 27)) (C := RX3) (T := TX3) (N := 10) hx hb hts inB_3 hown hE.1 hP 26 rfl rfl 2 (by decide) (hts _ k_372) (fun _ h9 => h9) rfl dX3_daysTillOut_1 ?_
  refine lv_aload_n hx hb dX3_daysTillOut_4 rfl (lv_at hl 0 rfl) ?_
  refine va_get (D := (dC, dI)) (ci := 3) (v := .ref (x 21)) (C := RX3) (T := TX3) (N := 10) hx hb hts inB_3 hown hE.1 hP 26 rfl rfl 1 (by decide) (hts _ k_371) (fun _ h9 => h9) rfl dX3_daysTillOut_5 ?_
  refine cbVv (n := 1) (rest := []) hx hb hml hown hts hE hP hD hS hA (sX_X1_copy_1 l dC dI cy x0 x  v f hIv ) k_945 k_946 k_947 k_106 k_948 (by decide +kernel) ⟨Nat.le_of_ble_eq_true rfl, Nat.le_of_ble_eq_true rfl⟩ 28 1 rfl rfl (rfl) hl.1 rfl (Nat.le_of_ble_eq_true rfl) dX3_daysTillOut_8 (fun u H locs hw hP hD hS => ?_)
  obtain ⟨v1, f2⟩ := u
  obtain ⟨kV_v1, kF_f2, hIv1, hk0_v1, hk1_v1, hk7_v1, hk8_v1, hk9_v1, hk10_v1, hk31_v1, hk32_v1⟩ := hw
  have hM_v1 : KV [] v1 v := KV.tr kV_v1 hM_v rfl
  have hA_f2 : KF [13, 14, 18] f2 f := KF.tr kF_f2 hA_f rfl
  have hP : va_P (dC, dI) vwCl (XW cy x0 x v1 f2) H := hP
  have hD : va_D A (XW cy x0 x v1 f2) := hD
  have hq0_v1 : v1 0 = (v 0) := hk0_v1
  have hq1_v1 : v1 1 = (v 1) := hk1_v1
  have hq7_v1 : v1 7 = (v 7) := hk7_v1
  have hq8_v1 : v1 8 = (v 8) := hk8_v1
  have hq9_v1 : v1 9 = (v 9) := hk9_v1
  have hq10_v1 : v1 10 = (v 10) := hk10_v1
  have hq31_v1 : v1 31 = (v 31) := hk31_v1
  have hq32_v1 : v1 32 = (v 32) := hk32_v1
  refine lv_iconst (v := 0) hx hb dX3_daysTillOut_11 (by decide) ?_
  refine lv_istore_n (lv' := [(2, .int 0), (0, .ref (x 25)), (1, .int p1)]) hx hb dX3_daysTillOut_12 rfl hl (by decide) rfl (fun ls hl => ?_)
  have lp3 : ∀ (n3 : Nat) (l2_3 : Int32) (v3 : Nat → Int32) (f3 : Nat → Nat → Int32), XI v3 → v3 0 = (v 0) → v3 1 = (v 1) → v3 7 = (v 7) → v3 8 = (v 8) → v3 9 = (v 9) → v3 10 = (v 10) → v3 31 = (v 31) → v3 32 = (v 32) → ((0 : Int) ≤ l2_3.toInt ∧ l2_3.toInt ≤ 2147483647) → KV [] v3 v → KF [13, 14, 18] f3 f → (2147483647 - l2_3.toInt).toNat < n3 → ∀ (H : Heap) (locs : List Loc) (ls : Array Slot), va_P (dC, dI) vwCl (XW cy x0 x v3 f3) H → va_D A (XW cy x0 x v3 f3) → va_S A s.heap H locs → lv_has ls 3 [(2, .int l2_3), (0, .ref (x 25)), (1, .int p1)] → W p l e { frames := 6, cells := 0, slots := 0, locals := 179 } s m ([.ref (x 25), .int p1] : List Value).toArray below meth c H locs 0 0 Q (F0 m 13 ls []) := by
    intro n3
    induction n3 with
    | zero => intro l2_3 v3 f3 hIv3 hq0_v3 hq1_v3 hq7_v3 hq8_v3 hq9_v3 hq10_v3 hq31_v3 hq32_v3 hr2_3 hM_v3 hA_f3 hm; exact absurd hm (Nat.not_lt_zero _)
    | succ n3 ih3 =>
      intro l2_3 v3 f3 hIv3 hq0_v3 hq1_v3 hq7_v3 hq8_v3 hq9_v3 hq10_v3 hq31_v3 hq32_v3 hr2_3 hM_v3 hA_f3 hm3 H locs ls hP hD hS hl
      refine lv_iload_n hx hb dX3_daysTillOut_13 rfl (lv_at hl 0 rfl) ?_
      refine lv_bipush (v := 60) hx hb dX3_daysTillOut_14 (by decide) ?_
      refine lv_icmp_gt (tgt := 48) hx hb dX3_daysTillOut_16 (by decide) (fun c4 => ?_) (fun c4 => ?_)
      · skip
        have zc4 : 60 < l2_3.toInt := by rw [fa_lt, show (60 : Int32).toInt = 60 from by decide] at c4; exact c4
        refine lv_iconst (v := (-1)) hx hb dX3_daysTillOut_48 (by decide) ?_
        exact ret (-1) (v3, f3) _ _ _ _ _ _ rfl ⟨hM_v3, hA_f3, hIv3, hq0_v3, hq1_v3, hq7_v3, hq8_v3, hq9_v3, hq10_v3, hq31_v3, hq32_v3⟩ hP hD hS dX3_daysTillOut_49 (Nat.le_refl _) (Nat.le_refl _)
      · skip
        have zc4 : ¬ (60 < l2_3.toInt) := by rw [fa_lt, show (60 : Int32).toInt = 60 from by decide] at c4; exact c4
        refine lv_aload_n hx hb dX3_daysTillOut_19 rfl (lv_at hl 1 rfl) ?_
        refine va_get (D := (dC, dI)) (ci := 3) (v := .ref (x 27)) (C := RX3) (T := TX3) (N := 10) hx hb hts inB_3 hown hE.1 hP 26 rfl rfl 2 (by decide) (hts _ k_372) (fun _ h9 => h9) rfl dX3_daysTillOut_20 ?_
        refine lv_iload_n hx hb dX3_daysTillOut_23 rfl (lv_at hl 2 rfl) ?_
        refine cbVi (n := 1) (rest := []) hx hb hml hown hts hE hP hD hS hA (sX_X1_wears_2 0 l dC dI cy x0 x p1 v3 f3 hIv3 ) k_950 k_810 k_811 k_106 k_812 (by decide +kernel) ⟨Nat.le_of_ble_eq_true rfl, Nat.le_of_ble_eq_true rfl⟩ 28 1 rfl rfl (rfl) hl.1 rfl (Nat.le_of_ble_eq_true rfl) dX3_daysTillOut_24 (fun r5 u H locs hw hP hD hS => ?_)
        have hG6 := hw
        refine lv_iconst (v := (-1)) hx hb dX3_daysTillOut_27 (by decide) ?_
        refine lv_icmp_ne (tgt := 33) hx hb dX3_daysTillOut_28 (by decide) (fun c7 => ?_) (fun c7 => ?_)
        · skip
          have zc7 : ¬ (r5.toInt = (-1)) := by rw [fa_eq, show ((-1) : Int32).toInt = -1 from by decide] at c7; exact c7
          refine lv_aload_n hx hb dX3_daysTillOut_33 rfl (lv_at hl 1 rfl) ?_
          refine va_get (D := (dC, dI)) (ci := 3) (v := .ref (x 27)) (C := RX3) (T := TX3) (N := 10) hx hb hts inB_3 hown hE.1 hP 26 rfl rfl 2 (by decide) (hts _ k_372) (fun _ h9 => h9) rfl dX3_daysTillOut_34 ?_
          refine lv_iconst (v := 0) hx hb dX3_daysTillOut_37 (by decide) ?_
          refine cbVi (n := 1) (rest := []) hx hb hml hown hts hE hP hD hS hA (sX_X1_passDay_2 0 l dC dI cy x0 x 0 v3 f3 hIv3 ) k_949 k_866 k_867 k_106 k_868 (by decide +kernel) ⟨Nat.le_of_ble_eq_true rfl, Nat.le_of_ble_eq_true rfl⟩ 28 1 rfl rfl (rfl) hl.1 rfl (Nat.le_of_ble_eq_true rfl) dX3_daysTillOut_38 (fun r8 u H locs hw hP hD hS => ?_)
          obtain ⟨hG9, hw⟩ := hw
          obtain ⟨v10, f11⟩ := u
          obtain ⟨kV_v10, kF_f11, hIv10, hk0_v10, hk1_v10, hk7_v10, hk8_v10, hk9_v10, hk10_v10, hk31_v10, hk32_v10⟩ := hw
          have hM_v10 : KV [] v10 v := KV.tr kV_v10 hM_v3 rfl
          have hA_f11 : KF [13, 14, 18] f11 f := KF.tr kF_f11 hA_f3 rfl
          have hP : va_P (dC, dI) vwCl (XW cy x0 x v10 f11) H := hP
          have hD : va_D A (XW cy x0 x v10 f11) := hD
          have hq0_v10 : v10 0 = (v 0) := hk0_v10.trans hq0_v3
          have hq1_v10 : v10 1 = (v 1) := hk1_v10.trans hq1_v3
          have hq7_v10 : v10 7 = (v 7) := hk7_v10.trans hq7_v3
          have hq8_v10 : v10 8 = (v 8) := hk8_v10.trans hq8_v3
          have hq9_v10 : v10 9 = (v 9) := hk9_v10.trans hq9_v3
          have hq10_v10 : v10 10 = (v 10) := hk10_v10.trans hq10_v3
          have hq31_v10 : v10 31 = (v 31) := hk31_v10.trans hq31_v3
          have hq32_v10 : v10 32 = (v 32) := hk32_v10.trans hq32_v3
          refine lv_pop hx hb dX3_daysTillOut_41 rfl ?_
          obtain ⟨t12, et12⟩ : ∃ y : Int32, y = l2_3 + 1 := ⟨_, rfl⟩
          have rg13 := fb_rng l2_3
          have zt12 : t12.toInt = l2_3.toInt + 1 := by rw [et12]; exact add_i rfl (by decide) (by omega) (by omega)
          refine lv_iinc (v := t12) (lv' := [(2, .int t12), (0, .ref (x 25)), (1, .int p1)]) hx hb dX3_daysTillOut_42 hl (k := 0) rfl (by rw [et12]; rfl) (by decide) rfl (fun ls hl => ?_)
          refine lv_goto (tgt := 13) hx hb dX3_daysTillOut_45 (by decide) ?_
          have rg14 := fb_rng t12
          exact ih3 t12 v10 f11 hIv10 hq0_v10 hq1_v10 hq7_v10 hq8_v10 hq9_v10 hq10_v10 hq31_v10 hq32_v10 ⟨show (0 : Int) ≤ t12.toInt by omega, show t12.toInt ≤ (2147483647 : Int) by omega⟩ hM_v10 hA_f11 (by show (2147483647 - t12.toInt).toNat < n3; omega) _ _ _ hP hD hS (lv_sub hl [0, 1, 2] rfl)
        · skip
          have zc7 : r5.toInt = (-1) := by rw [fa_eq, show ((-1) : Int32).toInt = -1 from by decide] at c7; exact c7
          refine lv_iload_n hx hb dX3_daysTillOut_31 rfl (lv_at hl 0 rfl) ?_
          exact ret l2_3 (v3, f3) _ _ _ _ _ _ rfl ⟨hM_v3, hA_f3, hIv3, hq0_v3, hq1_v3, hq7_v3, hq8_v3, hq9_v3, hq10_v3, hq31_v3, hq32_v3⟩ hP hD hS dX3_daysTillOut_32 (Nat.le_refl _) (Nat.le_refl _)
  exact lp3 _ 0 v1 f2 hIv1 hq0_v1 hq1_v1 hq7_v1 hq8_v1 hq9_v1 hq10_v1 hq31_v1 hq32_v1 ⟨by decide, by decide⟩ hM_v1 hA_f2 (Nat.lt_succ_self _) _ _ _ hP hD hS (lv_sub hl [0, 1, 2] rfl)
set_option maxHeartbeats 4000000 in
set_option maxRecDepth 100000 in
theorem sX_X10_out_1 (l : Launch) (dC : Nat → ClassId) (dI : Nat → Nat → Nat) (cy : Nat → ClassId) (x0 : Nat) (x : Nat → Nat) (p1 : Int32) (v : Nat → Int32) (f : Nat → Nat → Int32) (hIv : XI v)  : ctI l (dC, dI) cy yX10_out cX10_out 2 .int 7 201 0 0 ((Nat → Int32) × (Nat → Nat → Int32)) [.ref x0, .int p1] (XW cy x0 x v f) (fun r u => KV [] u.1 v ∧ KF [13, 14, 18] u.2 f ∧ XI u.1 ∧ u.1 0 = v 0 ∧ u.1 1 = v 1 ∧ u.1 7 = v 7 ∧ u.1 8 = v 8 ∧ u.1 9 = v 9 ∧ u.1 10 = v 10 ∧ u.1 31 = v 31 ∧ u.1 32 = v 32) (fun u => XW cy x0 x u.1 u.2) := by
  refine ctI_of (by decide) (Nat.le_of_ble_eq_true rfl) (fun p e s m below meth c A ls Q hx hb hml hts hown hE hP hD hA hl ret => ?_)
  have hM_v : KV [] v v := fun _ _ => rfl
  have hA_f : KF [13, 14, 18] f f := fun _ _ => rfl
  have hown : s.vm.findClass RX10 = some m.cls := hown
  have hS : va_S A s.heap s.heap [] := va_S.rf
  have hl : lv_has ls 2 [(0, .ref x0), (1, .int p1)] := hl
  refine lv_aload_n hx hb dX10_out_0 rfl (lv_at hl 0 rfl) ?_
  refine va_get (D := (dC, dI)) (ci := 10) (v := .ref (x 26)) (C := RX10) (T := TX10) (N := 10) hx hb hts inB_10 hown hE.1 hP 0 rfl rfl 2 (by decide) (hts _ k_493) (fun _ h9 => h9) rfl dX10_out_1 ?_
  refine lv_iload_n hx hb dX10_out_4 rfl (lv_at hl 1 rfl) ?_
  refine cbVi (n := 1) (rest := []) hx hb hml hown hts hE hP hD hS hA (sX_X7_hasMan_1 0 l dC dI cy x0 x p1 v f hIv ) k_802 k_307 k_308 k_104 k_309 (by decide +kernel) ⟨Nat.le_of_ble_eq_true rfl, Nat.le_of_ble_eq_true rfl⟩ 27 7 rfl rfl (rfl) hl.1 rfl (Nat.le_of_ble_eq_true rfl) dX10_out_5 (fun r1 u H locs hw hP hD hS => ?_)
  obtain ⟨hG2, hw⟩ := hw
  rcases hw with ⟨g3, g3_0, g3_1, g3_2⟩ | ⟨g3⟩
  · skip
    subst g3
    refine lv_if_eq (tgt := 22) hx hb dX10_out_8 (by decide) (fun c0 => absurd c0 (by decide)) (fun _ => ?_)
    refine lv_aload_n hx hb dX10_out_11 rfl (lv_at hl 0 rfl) ?_
    refine va_get (D := (dC, dI)) (ci := 10) (v := .ref (x 25)) (C := RX10) (T := TX10) (N := 10) hx hb hts inB_10 hown hE.1 hP 0 rfl rfl 5 (by decide) (hts _ k_496) (fun _ h9 => h9) rfl dX10_out_12 ?_
    refine lv_iload_n hx hb dX10_out_15 rfl (lv_at hl 1 rfl) ?_
    refine cbVi (n := 1) (rest := []) hx hb hml hown hts hE hP hD hS hA (sX_X3_daysTillOut_1 l dC dI cy x0 x p1 v f hIv ) k_955 k_956 k_957 k_109 k_958 (by decide +kernel) ⟨Nat.le_of_ble_eq_true rfl, Nat.le_of_ble_eq_true rfl⟩ 26 3 rfl rfl (rfl) hl.1 rfl (Nat.le_of_ble_eq_true rfl) dX10_out_16 (fun r4 u H locs hw hP hD hS => ?_)
    obtain ⟨v5, f6⟩ := u
    obtain ⟨kV_v5, kF_f6, hIv5, hk0_v5, hk1_v5, hk7_v5, hk8_v5, hk9_v5, hk10_v5, hk31_v5, hk32_v5⟩ := hw
    have hM_v5 : KV [] v5 v := KV.tr kV_v5 hM_v rfl
    have hA_f6 : KF [13, 14, 18] f6 f := KF.tr kF_f6 hA_f rfl
    have hP : va_P (dC, dI) vwCl (XW cy x0 x v5 f6) H := hP
    have hD : va_D A (XW cy x0 x v5 f6) := hD
    have hq0_v5 : v5 0 = (v 0) := hk0_v5
    have hq1_v5 : v5 1 = (v 1) := hk1_v5
    have hq7_v5 : v5 7 = (v 7) := hk7_v5
    have hq8_v5 : v5 8 = (v 8) := hk8_v5
    have hq9_v5 : v5 9 = (v 9) := hk9_v5
    have hq10_v5 : v5 10 = (v 10) := hk10_v5
    have hq31_v5 : v5 31 = (v 31) := hk31_v5
    have hq32_v5 : v5 32 = (v 32) := hk32_v5
    refine lv_goto (tgt := 23) hx hb dX10_out_19 (by decide) ?_
    exact ret r4 (v5, f6) _ _ _ _ _ _ rfl ⟨hM_v5, hA_f6, hIv5, hk0_v5, hk1_v5, hk7_v5, hk8_v5, hk9_v5, hk10_v5, hk31_v5, hk32_v5⟩ hP hD hS dX10_out_23 (Nat.le_refl _) (Nat.le_refl _)
  · skip
    subst g3
    refine lv_if_eq (tgt := 22) hx hb dX10_out_8 (by decide) (fun _ => ?_) (fun c0 => absurd (by decide) c0)
    refine lv_iconst (v := (-1)) hx hb dX10_out_22 (by decide) ?_
    exact ret (-1) (v, f) _ _ _ _ _ _ rfl ⟨hM_v, hA_f, hIv, rfl, rfl, rfl, rfl, rfl, rfl, rfl, rfl⟩ hP hD hS dX10_out_23 (Nat.le_refl _) (Nat.le_refl _)
set_option maxHeartbeats 4000000 in
set_option maxRecDepth 100000 in
theorem sX_X1_fittedMen_1 (l : Launch) (dC : Nat → ClassId) (dI : Nat → Nat → Nat) (cy : Nat → ClassId) (x0 : Nat) (x : Nat → Nat)  (v : Nat → Int32) (f : Nat → Nat → Int32) (hIv : XI v)  : ctI l (dC, dI) cy yX1_fittedMen cX1_fittedMen 3 .int 5 155 0 0 ((Nat → Int32) × (Nat → Nat → Int32)) [.ref (x 21)] (XW cy x0 x v f) (fun r u => KV [] u.1 v ∧ KF [13, 14] u.2 f ∧ XI u.1 ∧ u.1 0 = v 0 ∧ u.1 1 = v 1 ∧ u.1 7 = v 7 ∧ u.1 8 = v 8 ∧ u.1 9 = v 9 ∧ u.1 10 = v 10 ∧ u.1 31 = v 31 ∧ u.1 32 = v 32) (fun u => XW cy x0 x u.1 u.2) := by
  refine ctI_of (by decide) (Nat.le_of_ble_eq_true rfl) (fun p e s m below meth c A ls Q hx hb hml hts hown hE hP hD hA hl ret => ?_)
  have hM_v : KV [] v v := fun _ _ => rfl
  have hA_f : KF [13, 14] f f := fun _ _ => rfl
  have hown : s.vm.findClass RX1 = some m.cls := hown
  have hS : va_S A s.heap s.heap [] := va_S.rf
  have hl : lv_has ls 3 [(0, .ref (x 21))] := hl
  refine lv_iconst (v := 0) hx hb dX1_fittedMen_0 (by decide) ?_
  refine lv_istore_n (lv' := [(1, .int 0), (0, .ref (x 21))]) hx hb dX1_fittedMen_1 rfl hl (by decide) rfl (fun ls hl => ?_)
  refine lv_iconst (v := 0) hx hb dX1_fittedMen_2 (by decide) ?_
  refine lv_istore_n (lv' := [(2, .int 0), (1, .int 0), (0, .ref (x 21))]) hx hb dX1_fittedMen_3 rfl hl (by decide) rfl (fun ls hl => ?_)
  have lp1 : ∀ (n1 : Nat) (l1_1 : Int32) (l2_1 : Int32) (v1 : Nat → Int32) (f1 : Nat → Nat → Int32), XI v1 → v1 0 = (v 0) → v1 1 = (v 1) → v1 7 = (v 7) → v1 8 = (v 8) → v1 9 = (v 9) → v1 10 = (v 10) → v1 31 = (v 31) → v1 32 = (v 32) → ((0 : Int) ≤ l2_1.toInt ∧ l2_1.toInt ≤ 2147483647) → KV [] v1 v → KF [13, 14] f1 f → (2147483647 - l2_1.toInt).toNat < n1 → ∀ (H : Heap) (locs : List Loc) (ls : Array Slot), va_P (dC, dI) vwCl (XW cy x0 x v1 f1) H → va_D A (XW cy x0 x v1 f1) → va_S A s.heap H locs → lv_has ls 3 [(2, .int l2_1), (1, .int l1_1), (0, .ref (x 21))] → W p l e { frames := 5, cells := 0, slots := 0, locals := 155 } s m ([.ref (x 21)] : List Value).toArray below meth c H locs 0 0 Q (F0 m 4 ls []) := by
    intro n1
    induction n1 with
    | zero => intro l1_1 l2_1 v1 f1 hIv1 hq0_v1 hq1_v1 hq7_v1 hq8_v1 hq9_v1 hq10_v1 hq31_v1 hq32_v1 hr2_1 hM_v1 hA_f1 hm; exact absurd hm (Nat.not_lt_zero _)
    | succ n1 ih1 =>
      intro l1_1 l2_1 v1 f1 hIv1 hq0_v1 hq1_v1 hq7_v1 hq8_v1 hq9_v1 hq10_v1 hq31_v1 hq32_v1 hr2_1 hM_v1 hA_f1 hm1 H locs ls hP hD hS hl
      refine lv_iload_n hx hb dX1_fittedMen_4 rfl (lv_at hl 0 rfl) ?_
      refine lv_aload_n hx hb dX1_fittedMen_5 rfl (lv_at hl 2 rfl) ?_
      refine va_get (D := (dC, dI)) (ci := 1) (v := .ref (x 26)) (C := RX1) (T := TX1) (N := 2) hx hb hts inB_1 hown hE.1 hP 22 rfl rfl 0 (by decide) (hts _ k_318) (fun _ h9 => h9) rfl dX1_fittedMen_6 ?_
      refine va_getN (D := (dC, dI)) (ci := 7) (v := .int (v1 31)) (C := RX7) (T := TX7) (N := 10) hx hb hts inB_7 hown hE.1 hP 27 rfl rfl 3 (by decide) (va_Nw.use rfl (hE.2 _ k_219)) (fun _ h9 => h9) rfl dX1_fittedMen_9 ?_
      refine tI (y := (v 31)) hq31_v1 ?_
      have b31_v : 0 ≤ (v 31).toInt ∧ (v 31).toInt ≤ 6 := XI.b hIv 31 (by decide)
      refine lv_icmp_ge (tgt := 40) hx hb dX1_fittedMen_12 (by decide) (fun c2 => ?_) (fun c2 => ?_)
      · skip
        have zc2 : (v 31).toInt ≤ l2_1.toInt := by rw [fa_le] at c2; exact c2
        have rg3 := fb_rng l2_1
        have rg4 := fb_rng (v 31)
        refine lv_iload_n hx hb dX1_fittedMen_40 rfl (lv_at hl 1 rfl) ?_
        exact ret l1_1 (v1, f1) _ _ _ _ _ _ rfl ⟨hM_v1, hA_f1, hIv1, (show v1 0 = v 0 from hq0_v1), (show v1 1 = v 1 from hq1_v1), (show v1 7 = v 7 from hq7_v1), (show v1 8 = v 8 from hq8_v1), (show v1 9 = v 9 from hq9_v1), (show v1 10 = v 10 from hq10_v1), (show v1 31 = v 31 from hq31_v1), (show v1 32 = v 32 from hq32_v1)⟩ hP hD hS dX1_fittedMen_41 (Nat.le_refl _) (Nat.le_refl _)
      · skip
        have zc2 : ¬ ((v 31).toInt ≤ l2_1.toInt) := by rw [fa_le] at c2; exact c2
        have rg5 := fb_rng l2_1
        have rg6 := fb_rng (v 31)
        refine lv_aload_n hx hb dX1_fittedMen_15 rfl (lv_at hl 2 rfl) ?_
        refine lv_iload_n hx hb dX1_fittedMen_16 rfl (lv_at hl 0 rfl) ?_
        refine lv_aload_n hx hb dX1_fittedMen_17 rfl (lv_at hl 2 rfl) ?_
        refine lv_iload_n hx hb dX1_fittedMen_18 rfl (lv_at hl 0 rfl) ?_
        refine cbVi (n := 1) (rest := [.int l2_1, .ref (x 21)]) hx hb hml hown hts hE hP hD hS hA (sX_X1_wears_1 0 l dC dI cy x0 x l2_1 v1 f1 hIv1 ) k_853 k_810 k_811 k_106 k_812 (by decide +kernel) ⟨Nat.le_of_ble_eq_true rfl, Nat.le_of_ble_eq_true rfl⟩ 22 1 rfl rfl (rfl) hl.1 rfl (Nat.le_of_ble_eq_true rfl) dX1_fittedMen_19 (fun r7 u H locs hw hP hD hS => ?_)
        have hG8 := hw
        refine cbVi (n := 2) (rest := []) hx hb hml hown hts hE hP hD hS hA (sX_X1_fits_1 0 l dC dI cy x0 x l2_1 r7 v1 f1 hIv1 ) k_817 k_818 k_819 k_106 k_820 (by decide +kernel) ⟨Nat.le_of_ble_eq_true rfl, Nat.le_of_ble_eq_true rfl⟩ 22 1 rfl rfl (rfl) hl.1 rfl (Nat.le_of_ble_eq_true rfl) dX1_fittedMen_22 (fun r9 u H locs hw hP hD hS => ?_)
        obtain ⟨hG10, hw⟩ := hw
        obtain ⟨v11, f12⟩ := u
        obtain ⟨kV_v11, kF_f12, hIv11, hk0_v11, hk1_v11, hk7_v11, hk8_v11, hk9_v11, hk10_v11, hk31_v11, hk32_v11, hw⟩ := hw
        have hM_v11 : KV [] v11 v := KV.tr kV_v11 hM_v1 rfl
        have hA_f12 : KF [13, 14] f12 f := KF.tr kF_f12 hA_f1 rfl
        have hP : va_P (dC, dI) vwCl (XW cy x0 x v11 f12) H := hP
        have hD : va_D A (XW cy x0 x v11 f12) := hD
        have hq0_v11 : v11 0 = (v 0) := hk0_v11.trans hq0_v1
        have hq1_v11 : v11 1 = (v 1) := hk1_v11.trans hq1_v1
        have hq7_v11 : v11 7 = (v 7) := hk7_v11.trans hq7_v1
        have hq8_v11 : v11 8 = (v 8) := hk8_v11.trans hq8_v1
        have hq9_v11 : v11 9 = (v 9) := hk9_v11.trans hq9_v1
        have hq10_v11 : v11 10 = (v 10) := hk10_v11.trans hq10_v1
        have hq31_v11 : v11 31 = (v 31) := hk31_v11.trans hq31_v1
        have hq32_v11 : v11 32 = (v 32) := hk32_v11.trans hq32_v1
        rcases hw with ⟨g13⟩ | ⟨g13⟩
        · skip
          subst g13
          refine lv_if_eq (tgt := 34) hx hb dX1_fittedMen_25 (by decide) (fun c0 => absurd c0 (by decide)) (fun _ => ?_)
          refine lv_iload_n hx hb dX1_fittedMen_28 rfl (lv_at hl 1 rfl) ?_
          refine lv_iconst (v := 1) hx hb dX1_fittedMen_29 (by decide) ?_
          refine lv_iload_n hx hb dX1_fittedMen_30 rfl (lv_at hl 0 rfl) ?_
          refine lv_ishl hx hb dX1_fittedMen_31 ?_
          refine lv_topi (fun t14 et14 => ?_)
          have zt14 : 1 ≤ t14.toInt ∧ t14.toInt ≤ 32 := by rw [et14]; exact shl1_rng (by omega) (by omega)
          refine lv_ior hx hb dX1_fittedMen_32 ?_
          refine lv_topi (fun t15 et15 => ?_)
          refine lv_istore_n (lv' := [(1, .int t15), (2, .int l2_1), (0, .ref (x 21))]) hx hb dX1_fittedMen_33 rfl hl (by decide) rfl (fun ls hl => ?_)
          obtain ⟨t16, et16⟩ : ∃ y : Int32, y = l2_1 + 1 := ⟨_, rfl⟩
          have zt16 : t16.toInt = l2_1.toInt + 1 := by rw [et16]; exact add_i rfl (by decide) (by omega) (by omega)
          refine lv_iinc (v := t16) (lv' := [(2, .int t16), (1, .int t15), (0, .ref (x 21))]) hx hb dX1_fittedMen_34 hl (k := 1) rfl (by rw [et16]; rfl) (by decide) rfl (fun ls hl => ?_)
          refine lv_goto (tgt := 4) hx hb dX1_fittedMen_37 (by decide) ?_
          have rg17 := fb_rng t16
          exact ih1 t15 t16 v11 f12 hIv11 hq0_v11 hq1_v11 hq7_v11 hq8_v11 hq9_v11 hq10_v11 hq31_v11 hq32_v11 ⟨show (0 : Int) ≤ t16.toInt by omega, show t16.toInt ≤ (2147483647 : Int) by omega⟩ hM_v11 hA_f12 (by show (2147483647 - t16.toInt).toNat < n1; omega) _ _ _ hP hD hS (lv_sub hl [0, 1, 2] rfl)
        · skip
          subst g13
          refine lv_if_eq (tgt := 34) hx hb dX1_fittedMen_25 (by decide) (fun _ => ?_) (fun c0 => absurd (by decide) c0)
          obtain ⟨t18, et18⟩ : ∃ y : Int32, y = l2_1 + 1 := ⟨_, rfl⟩
          have zt18 : t18.toInt = l2_1.toInt + 1 := by rw [et18]; exact add_i rfl (by decide) (by omega) (by omega)
          refine lv_iinc (v := t18) (lv' := [(2, .int t18), (1, .int l1_1), (0, .ref (x 21))]) hx hb dX1_fittedMen_34 hl (k := 0) rfl (by rw [et18]; rfl) (by decide) rfl (fun ls hl => ?_)
          refine lv_goto (tgt := 4) hx hb dX1_fittedMen_37 (by decide) ?_
          have rg19 := fb_rng t18
          exact ih1 l1_1 t18 v11 f12 hIv11 hq0_v11 hq1_v11 hq7_v11 hq8_v11 hq9_v11 hq10_v11 hq31_v11 hq32_v11 ⟨show (0 : Int) ≤ t18.toInt by omega, show t18.toInt ≤ (2147483647 : Int) by omega⟩ hM_v11 hA_f12 (by show (2147483647 - t18.toInt).toNat < n1; omega) _ _ _ hP hD hS (lv_sub hl [0, 1, 2] rfl)
  exact lp1 _ 0 0 v f hIv rfl rfl rfl rfl rfl rfl rfl rfl ⟨by decide, by decide⟩ hM_v hA_f (Nat.lt_succ_self _) _ _ _ hP hD hS (lv_sub hl [0, 1, 2] rfl)
set_option maxHeartbeats 4000000 in
set_option maxRecDepth 100000 in
theorem sX_X10_fitted_1 (l : Launch) (dC : Nat → ClassId) (dI : Nat → Nat → Nat) (cy : Nat → ClassId) (x0 : Nat) (x : Nat → Nat)  (v : Nat → Int32) (f : Nat → Nat → Int32) (hIv : XI v)  : ctI l (dC, dI) cy yX10_fitted cX10_fitted 1 .int 6 177 0 0 ((Nat → Int32) × (Nat → Nat → Int32)) [.ref x0] (XW cy x0 x v f) (fun r u => KV [] u.1 v ∧ KF [13, 14] u.2 f ∧ XI u.1 ∧ u.1 0 = v 0 ∧ u.1 1 = v 1 ∧ u.1 7 = v 7 ∧ u.1 8 = v 8 ∧ u.1 9 = v 9 ∧ u.1 10 = v 10 ∧ u.1 31 = v 31 ∧ u.1 32 = v 32) (fun u => XW cy x0 x u.1 u.2) := by
  refine ctI_of (by decide) (Nat.le_of_ble_eq_true rfl) (fun p e s m below meth c A ls Q hx hb hml hts hown hE hP hD hA hl ret => ?_)
  have hM_v : KV [] v v := fun _ _ => rfl
  have hA_f : KF [13, 14] f f := fun _ _ => rfl
  have hown : s.vm.findClass RX10 = some m.cls := hown
  have hS : va_S A s.heap s.heap [] := va_S.rf
  have hl : lv_has ls 1 [(0, .ref x0)] := hl
  refine lv_aload_n hx hb dX10_fitted_0 rfl (lv_at hl 0 rfl) ?_
  refine va_get (D := (dC, dI)) (ci := 10) (v := .ref (x 21)) (C := RX10) (T := TX10) (N := 10) hx hb hts inB_10 hown hE.1 hP 0 rfl rfl 3 (by decide) (hts _ k_494) (fun _ h9 => h9) rfl dX10_fitted_1 ?_
  refine cbVi (n := 0) (rest := []) hx hb hml hown hts hE hP hD hS hA (sX_X1_fittedMen_1 l dC dI cy x0 x  v f hIv ) k_963 k_964 k_965 k_106 k_966 (by decide +kernel) ⟨Nat.le_of_ble_eq_true rfl, Nat.le_of_ble_eq_true rfl⟩ 22 1 rfl rfl (rfl) hl.1 rfl (Nat.le_of_ble_eq_true rfl) dX10_fitted_4 (fun r1 u H locs hw hP hD hS => ?_)
  obtain ⟨v2, f3⟩ := u
  obtain ⟨kV_v2, kF_f3, hIv2, hk0_v2, hk1_v2, hk7_v2, hk8_v2, hk9_v2, hk10_v2, hk31_v2, hk32_v2⟩ := hw
  have hM_v2 : KV [] v2 v := KV.tr kV_v2 hM_v rfl
  have hA_f3 : KF [13, 14] f3 f := KF.tr kF_f3 hA_f rfl
  have hP : va_P (dC, dI) vwCl (XW cy x0 x v2 f3) H := hP
  have hD : va_D A (XW cy x0 x v2 f3) := hD
  have hq0_v2 : v2 0 = (v 0) := hk0_v2
  have hq1_v2 : v2 1 = (v 1) := hk1_v2
  have hq7_v2 : v2 7 = (v 7) := hk7_v2
  have hq8_v2 : v2 8 = (v 8) := hk8_v2
  have hq9_v2 : v2 9 = (v 9) := hk9_v2
  have hq10_v2 : v2 10 = (v 10) := hk10_v2
  have hq31_v2 : v2 31 = (v 31) := hk31_v2
  have hq32_v2 : v2 32 = (v 32) := hk32_v2
  exact ret r1 (v2, f3) _ _ _ _ _ _ rfl ⟨hM_v2, hA_f3, hIv2, hk0_v2, hk1_v2, hk7_v2, hk8_v2, hk9_v2, hk10_v2, hk31_v2, hk32_v2⟩ hP hD hS dX10_fitted_7 (Nat.le_refl _) (Nat.le_refl _)
set_option maxHeartbeats 4000000 in
set_option maxRecDepth 100000 in
theorem sX_X0_reckonGains_1 (l : Launch) (dC : Nat → ClassId) (dI : Nat → Nat → Nat) (cy : Nat → ClassId) (x0 : Nat) (x : Nat → Nat)  (v : Nat → Int32) (f : Nat → Nat → Int32) (hIv : XI v)  : ctV l (dC, dI) cy yX0_reckonGains cX0_reckonGains 4 4 133 0 0 ((Nat → Int32) × (Nat → Nat → Int32)) [.ref (x 31)] (XW cy x0 x v f) (fun u => KV [] u.1 v ∧ KF [13, 14, 22] u.2 f ∧ XI u.1 ∧ u.1 0 = v 0 ∧ u.1 1 = v 1 ∧ u.1 7 = v 7 ∧ u.1 8 = v 8 ∧ u.1 9 = v 9 ∧ u.1 10 = v 10 ∧ u.1 31 = v 31 ∧ u.1 32 = v 32) (fun u => XW cy x0 x u.1 u.2) := by
  refine ctV_of (by decide) (Nat.le_of_ble_eq_true rfl) (fun p e s m below meth c A ls Q hx hb hml hts hown hnm hE hP hD hA hl ret => ?_)
  have hM_v : KV [] v v := fun _ _ => rfl
  have hA_f : KF [13, 14, 22] f f := fun _ _ => rfl
  have hown : s.vm.findClass RX0 = some m.cls := hown
  have hS : va_S A s.heap s.heap [] := va_S.rf
  have hl : lv_has ls 4 [(0, .ref (x 31))] := hl
  refine lv_iconst (v := 0) hx hb dX0_reckonGains_0 (by decide) ?_
  refine lv_istore_n (lv' := [(1, .int 0), (0, .ref (x 31))]) hx hb dX0_reckonGains_1 rfl hl (by decide) rfl (fun ls hl => ?_)
  have lp1 : ∀ (n1 : Nat) (l1_1 : Int32) (v1 : Nat → Int32) (f1 : Nat → Nat → Int32), XI v1 → v1 0 = (v 0) → v1 1 = (v 1) → v1 7 = (v 7) → v1 8 = (v 8) → v1 9 = (v 9) → v1 10 = (v 10) → v1 31 = (v 31) → v1 32 = (v 32) → ((0 : Int) ≤ l1_1.toInt ∧ l1_1.toInt ≤ 2147483647) → KV [] v1 v → KF [13, 14, 22] f1 f → (2147483647 - l1_1.toInt).toNat < n1 → ∀ (H : Heap) (locs : List Loc) (ls : Array Slot), va_P (dC, dI) vwCl (XW cy x0 x v1 f1) H → va_D A (XW cy x0 x v1 f1) → va_S A s.heap H locs → lv_has ls 4 [(1, .int l1_1), (0, .ref (x 31))] → W p l e { frames := 4, cells := 0, slots := 0, locals := 133 } s m ([.ref (x 31)] : List Value).toArray below meth c H locs 0 0 Q (F0 m 2 ls []) := by
    intro n1
    induction n1 with
    | zero => intro l1_1 v1 f1 hIv1 hq0_v1 hq1_v1 hq7_v1 hq8_v1 hq9_v1 hq10_v1 hq31_v1 hq32_v1 hr1_1 hM_v1 hA_f1 hm; exact absurd hm (Nat.not_lt_zero _)
    | succ n1 ih1 =>
      intro l1_1 v1 f1 hIv1 hq0_v1 hq1_v1 hq7_v1 hq8_v1 hq9_v1 hq10_v1 hq31_v1 hq32_v1 hr1_1 hM_v1 hA_f1 hm1 H locs ls hP hD hS hl
      refine lv_iload_n hx hb dX0_reckonGains_2 rfl (lv_at hl 0 rfl) ?_
      refine lv_aload_n hx hb dX0_reckonGains_3 rfl (lv_at hl 1 rfl) ?_
      refine va_get (D := (dC, dI)) (ci := 0) (v := .ref (x 26)) (C := RX0) (T := TX0) (N := 8) hx hb hts inB_0 hown hE.1 hP 32 rfl rfl 0 (by decide) (hts _ k_430) (fun _ h9 => h9) rfl dX0_reckonGains_4 ?_
      refine va_getN (D := (dC, dI)) (ci := 7) (v := .int (v1 31)) (C := RX7) (T := TX7) (N := 10) hx hb hts inB_7 hown hE.1 hP 27 rfl rfl 3 (by decide) (va_Nw.use rfl (hE.2 _ k_216)) (fun _ h9 => h9) rfl dX0_reckonGains_7 ?_
      refine tI (y := (v 31)) hq31_v1 ?_
      have b31_v : 0 ≤ (v 31).toInt ∧ (v 31).toInt ≤ 6 := XI.b hIv 31 (by decide)
      refine lv_icmp_ge (tgt := 79) hx hb dX0_reckonGains_10 (by decide) (fun c2 => ?_) (fun c2 => ?_)
      · skip
        have zc2 : (v 31).toInt ≤ l1_1.toInt := by rw [fa_le] at c2; exact c2
        have rg3 := fb_rng l1_1
        have rg4 := fb_rng (v 31)
        exact ret (v1, f1) _ _ _ _ _ _ ⟨hM_v1, hA_f1, hIv1, (show v1 0 = v 0 from hq0_v1), (show v1 1 = v 1 from hq1_v1), (show v1 7 = v 7 from hq7_v1), (show v1 8 = v 8 from hq8_v1), (show v1 9 = v 9 from hq9_v1), (show v1 10 = v 10 from hq10_v1), (show v1 31 = v 31 from hq31_v1), (show v1 32 = v 32 from hq32_v1)⟩ hP hD hS dX0_reckonGains_79 (Nat.le_refl _) (Nat.le_refl _)
      · skip
        have zc2 : ¬ ((v 31).toInt ≤ l1_1.toInt) := by rw [fa_le] at c2; exact c2
        have rg5 := fb_rng l1_1
        have rg6 := fb_rng (v 31)
        refine lv_iconst (v := 0) hx hb dX0_reckonGains_13 (by decide) ?_
        refine lv_istore_n (lv' := [(2, .int 0), (1, .int l1_1), (0, .ref (x 31))]) hx hb dX0_reckonGains_14 rfl hl (by decide) rfl (fun ls hl => ?_)
        have lp7 : ∀ (n7 : Nat) (l2_7 : Int32) (v7 : Nat → Int32) (f7 : Nat → Nat → Int32), XI v7 → v7 0 = (v 0) → v7 1 = (v 1) → v7 7 = (v 7) → v7 8 = (v 8) → v7 9 = (v 9) → v7 10 = (v 10) → v7 31 = (v 31) → v7 32 = (v 32) → ((0 : Int) ≤ l2_7.toInt ∧ l2_7.toInt ≤ 2147483647) → KV [] v7 v → KF [13, 14, 22] f7 f → (2147483647 - l2_7.toInt).toNat < n7 → ∀ (H : Heap) (locs : List Loc) (ls : Array Slot), va_P (dC, dI) vwCl (XW cy x0 x v7 f7) H → va_D A (XW cy x0 x v7 f7) → va_S A s.heap H locs → lv_has ls 4 [(2, .int l2_7), (1, .int l1_1), (0, .ref (x 31))] → W p l e { frames := 4, cells := 0, slots := 0, locals := 133 } s m ([.ref (x 31)] : List Value).toArray below meth c H locs 0 0 Q (F0 m 15 ls []) := by
          intro n7
          induction n7 with
          | zero => intro l2_7 v7 f7 hIv7 hq0_v7 hq1_v7 hq7_v7 hq8_v7 hq9_v7 hq10_v7 hq31_v7 hq32_v7 hr2_7 hM_v7 hA_f7 hm; exact absurd hm (Nat.not_lt_zero _)
          | succ n7 ih7 =>
            intro l2_7 v7 f7 hIv7 hq0_v7 hq1_v7 hq7_v7 hq8_v7 hq9_v7 hq10_v7 hq31_v7 hq32_v7 hr2_7 hM_v7 hA_f7 hm7 H locs ls hP hD hS hl
            refine lv_iload_n hx hb dX0_reckonGains_15 rfl (lv_at hl 0 rfl) ?_
            refine lv_aload_n hx hb dX0_reckonGains_16 rfl (lv_at hl 2 rfl) ?_
            refine va_get (D := (dC, dI)) (ci := 0) (v := .ref (x 26)) (C := RX0) (T := TX0) (N := 8) hx hb hts inB_0 hown hE.1 hP 32 rfl rfl 0 (by decide) (hts _ k_430) (fun _ h9 => h9) rfl dX0_reckonGains_17 ?_
            refine va_getN (D := (dC, dI)) (ci := 7) (v := .int (v7 32)) (C := RX7) (T := TX7) (N := 10) hx hb hts inB_7 hown hE.1 hP 27 rfl rfl 4 (by decide) (va_Nw.use rfl (hE.2 _ k_222)) (fun _ h9 => h9) rfl dX0_reckonGains_20 ?_
            refine tI (y := (v 32)) hq32_v7 ?_
            have b32_v : 0 ≤ (v 32).toInt ∧ (v 32).toInt ≤ 6 := XI.b hIv 32 (by decide)
            refine lv_icmp_ge (tgt := 73) hx hb dX0_reckonGains_23 (by decide) (fun c8 => ?_) (fun c8 => ?_)
            · skip
              have zc8 : (v 32).toInt ≤ l2_7.toInt := by rw [fa_le] at c8; exact c8
              have rg9 := fb_rng l2_7
              have rg10 := fb_rng (v 32)
              obtain ⟨t11, et11⟩ : ∃ y : Int32, y = l1_1 + 1 := ⟨_, rfl⟩
              have zt11 : t11.toInt = l1_1.toInt + 1 := by rw [et11]; exact add_i rfl (by decide) (by omega) (by omega)
              refine lv_iinc (v := t11) (lv' := [(1, .int t11), (2, .int l2_7), (0, .ref (x 31))]) hx hb dX0_reckonGains_73 hl (k := 1) rfl (by rw [et11]; rfl) (by decide) rfl (fun ls hl => ?_)
              refine lv_goto (tgt := 2) hx hb dX0_reckonGains_76 (by decide) ?_
              have rg12 := fb_rng t11
              exact ih1 t11 v7 f7 hIv7 hq0_v7 hq1_v7 hq7_v7 hq8_v7 hq9_v7 hq10_v7 hq31_v7 hq32_v7 ⟨show (0 : Int) ≤ t11.toInt by omega, show t11.toInt ≤ (2147483647 : Int) by omega⟩ hM_v7 hA_f7 (by show (2147483647 - t11.toInt).toNat < n1; omega) _ _ _ hP hD hS (lv_sub hl [0, 2] rfl)
            · skip
              have zc8 : ¬ ((v 32).toInt ≤ l2_7.toInt) := by rw [fa_le] at c8; exact c8
              have rg13 := fb_rng l2_7
              have rg14 := fb_rng (v 32)
              refine lv_aload_n hx hb dX0_reckonGains_26 rfl (lv_at hl 2 rfl) ?_
              refine va_get (D := (dC, dI)) (ci := 0) (v := .ref (x 21)) (C := RX0) (T := TX0) (N := 8) hx hb hts inB_0 hown hE.1 hP 32 rfl rfl 1 (by decide) (hts _ k_431) (fun _ h9 => h9) rfl dX0_reckonGains_27 ?_
              refine lv_iload_n hx hb dX0_reckonGains_30 rfl (lv_at hl 1 rfl) ?_
              refine lv_iload_n hx hb dX0_reckonGains_31 rfl (lv_at hl 0 rfl) ?_
              refine cbVi (n := 2) (rest := []) hx hb hml hown hts hE hP hD hS hA (sX_X1_illness_1 0 l dC dI cy x0 x l1_1 l2_7 v7 f7 hIv7 ) k_979 k_823 k_824 k_106 k_825 (by decide +kernel) ⟨Nat.le_of_ble_eq_true rfl, Nat.le_of_ble_eq_true rfl⟩ 22 1 rfl rfl (rfl) hl.1 rfl (Nat.le_of_ble_eq_true rfl) dX0_reckonGains_32 (fun r15 u H locs hw hP hD hS => ?_)
              obtain ⟨hG16, hw⟩ := hw
              obtain ⟨v17, f18⟩ := u
              obtain ⟨kV_v17, kF_f18, hIv17, hk0_v17, hk1_v17, hk7_v17, hk8_v17, hk9_v17, hk10_v17, hk31_v17, hk32_v17⟩ := hw
              have hM_v17 : KV [] v17 v := KV.tr kV_v17 hM_v7 rfl
              have hA_f18 : KF [13, 14, 22] f18 f := KF.tr kF_f18 hA_f7 rfl
              have hP : va_P (dC, dI) vwCl (XW cy x0 x v17 f18) H := hP
              have hD : va_D A (XW cy x0 x v17 f18) := hD
              have hq0_v17 : v17 0 = (v 0) := hk0_v17.trans hq0_v7
              have hq1_v17 : v17 1 = (v 1) := hk1_v17.trans hq1_v7
              have hq7_v17 : v17 7 = (v 7) := hk7_v17.trans hq7_v7
              have hq8_v17 : v17 8 = (v 8) := hk8_v17.trans hq8_v7
              have hq9_v17 : v17 9 = (v 9) := hk9_v17.trans hq9_v7
              have hq10_v17 : v17 10 = (v 10) := hk10_v17.trans hq10_v7
              have hq31_v17 : v17 31 = (v 31) := hk31_v17.trans hq31_v7
              have hq32_v17 : v17 32 = (v 32) := hk32_v17.trans hq32_v7
              refine lv_istore_n (lv' := [(3, .int r15), (2, .int l2_7), (1, .int l1_1), (0, .ref (x 31))]) hx hb dX0_reckonGains_35 rfl hl (by decide) rfl (fun ls hl => ?_)
              refine lv_aload_n hx hb dX0_reckonGains_36 rfl (lv_at hl 3 rfl) ?_
              refine va_get (D := (dC, dI)) (ci := 0) (v := .ref (x 34)) (C := RX0) (T := TX0) (N := 8) hx hb hts inB_0 hown hE.1 hP 32 rfl rfl 5 (by decide) (hts _ k_436) (fun _ h9 => h9) rfl dX0_reckonGains_37 ?_
              refine lv_iload_n hx hb dX0_reckonGains_40 rfl (lv_at hl 2 rfl) ?_
              refine lv_bipush (v := 6) hx hb dX0_reckonGains_41 (by decide) ?_
              refine lv_imul hx hb dX0_reckonGains_43 ?_
              refine lv_topi (fun t19 et19 => ?_)
              have zt19 : t19.toInt = l1_1.toInt * 6 := by rw [et19]; exact mul_i rfl (by decide) (by omega) (by omega)
              refine lv_iload_n hx hb dX0_reckonGains_44 rfl (lv_at hl 1 rfl) ?_
              refine lv_iadd hx hb dX0_reckonGains_45 ?_
              refine lv_topi (fun t20 et20 => ?_)
              have rg21 := fb_rng t19
              have zt20 : t20.toInt = t19.toInt + l2_7.toInt := by rw [et20]; exact add_i rfl rfl (by omega) (by omega)
              refine lv_iload_n hx hb dX0_reckonGains_46 rfl (lv_at hl 0 rfl) ?_
              refine lv_aload_n hx hb dX0_reckonGains_47 rfl (lv_at hl 3 rfl) ?_
              refine va_get (D := (dC, dI)) (ci := 0) (v := .ref (x 26)) (C := RX0) (T := TX0) (N := 8) hx hb hts inB_0 hown hE.1 hP 32 rfl rfl 0 (by decide) (hts _ k_430) (fun _ h9 => h9) rfl dX0_reckonGains_48 ?_
              refine va_getN (D := (dC, dI)) (ci := 7) (v := .int (v17 33)) (C := RX7) (T := TX7) (N := 10) hx hb hts inB_7 hown hE.1 hP 27 rfl rfl 5 (by decide) (va_Nw.use rfl (hE.2 _ k_229)) (fun _ h9 => h9) rfl dX0_reckonGains_51 ?_
              refine lv_icmp_gt (tgt := 65) hx hb dX0_reckonGains_54 (by decide) (fun c22 => ?_) (fun c22 => ?_)
              · skip
                have zc22 : (v17 33).toInt < r15.toInt := by rw [fa_lt] at c22; exact c22
                have rg23 := fb_rng r15
                have rg24 := fb_rng (v17 33)
                refine lv_iconst (v := (-1)) hx hb dX0_reckonGains_65 (by decide) ?_
                refine stI hx hb hE hP hD hS 35 rfl (vp_in_iff.mpr ⟨by omega, by omega⟩) rfl dX0_reckonGains_66 (fun H locs hP hD hS => ?_)
                obtain ⟨f25, ef25, hP, hD⟩ : ∃ fz9, fz9 = upd2 f18 22 (upd (f18 22) t20.toNatClampNeg (-1)) ∧ va_P (dC, dI) vwCl (XW cy x0 x v17 fz9) H ∧ va_D A (XW cy x0 x v17 fz9) := ⟨_, rfl, hP, hD⟩
                have hA_f25 : KF [13, 14, 22] f25 f := by rw [ef25]; exact KF.up hA_f18 rfl
                obtain ⟨t26, et26⟩ : ∃ y : Int32, y = l2_7 + 1 := ⟨_, rfl⟩
                have zt26 : t26.toInt = l2_7.toInt + 1 := by rw [et26]; exact add_i rfl (by decide) (by omega) (by omega)
                refine lv_iinc (v := t26) (lv' := [(2, .int t26), (3, .int r15), (1, .int l1_1), (0, .ref (x 31))]) hx hb dX0_reckonGains_67 hl (k := 1) rfl (by rw [et26]; rfl) (by decide) rfl (fun ls hl => ?_)
                refine lv_goto (tgt := 15) hx hb dX0_reckonGains_70 (by decide) ?_
                have rg27 := fb_rng t26
                exact ih7 t26 v17 f25 hIv17 hq0_v17 hq1_v17 hq7_v17 hq8_v17 hq9_v17 hq10_v17 hq31_v17 hq32_v17 ⟨show (0 : Int) ≤ t26.toInt by omega, show t26.toInt ≤ (2147483647 : Int) by omega⟩ hM_v17 hA_f25 (by show (2147483647 - t26.toInt).toNat < n7; omega) _ _ _ hP hD hS (lv_sub hl [0, 2, 3] rfl)
              · skip
                have zc22 : ¬ ((v17 33).toInt < r15.toInt) := by rw [fa_lt] at c22; exact c22
                have rg28 := fb_rng r15
                have rg29 := fb_rng (v17 33)
                refine lv_sipush (v := 10000) hx hb dX0_reckonGains_57 (by decide) ?_
                refine lv_iload_n hx hb dX0_reckonGains_60 rfl (lv_at hl 0 rfl) ?_
                refine lv_isub hx hb dX0_reckonGains_61 ?_
                refine lv_topi (fun t30 et30 => ?_)
                refine lv_goto (tgt := 66) hx hb dX0_reckonGains_62 (by decide) ?_
                refine stI hx hb hE hP hD hS 35 rfl (vp_in_iff.mpr ⟨by omega, by omega⟩) rfl dX0_reckonGains_66 (fun H locs hP hD hS => ?_)
                obtain ⟨f31, ef31, hP, hD⟩ : ∃ fz9, fz9 = upd2 f18 22 (upd (f18 22) t20.toNatClampNeg t30) ∧ va_P (dC, dI) vwCl (XW cy x0 x v17 fz9) H ∧ va_D A (XW cy x0 x v17 fz9) := ⟨_, rfl, hP, hD⟩
                have hA_f31 : KF [13, 14, 22] f31 f := by rw [ef31]; exact KF.up hA_f18 rfl
                obtain ⟨t32, et32⟩ : ∃ y : Int32, y = l2_7 + 1 := ⟨_, rfl⟩
                have zt32 : t32.toInt = l2_7.toInt + 1 := by rw [et32]; exact add_i rfl (by decide) (by omega) (by omega)
                refine lv_iinc (v := t32) (lv' := [(2, .int t32), (3, .int r15), (1, .int l1_1), (0, .ref (x 31))]) hx hb dX0_reckonGains_67 hl (k := 1) rfl (by rw [et32]; rfl) (by decide) rfl (fun ls hl => ?_)
                refine lv_goto (tgt := 15) hx hb dX0_reckonGains_70 (by decide) ?_
                have rg33 := fb_rng t32
                exact ih7 t32 v17 f31 hIv17 hq0_v17 hq1_v17 hq7_v17 hq8_v17 hq9_v17 hq10_v17 hq31_v17 hq32_v17 ⟨show (0 : Int) ≤ t32.toInt by omega, show t32.toInt ≤ (2147483647 : Int) by omega⟩ hM_v17 hA_f31 (by show (2147483647 - t32.toInt).toNat < n7; omega) _ _ _ hP hD hS (lv_sub hl [0, 2, 3] rfl)
        exact lp7 _ 0 v1 f1 hIv1 hq0_v1 hq1_v1 hq7_v1 hq8_v1 hq9_v1 hq10_v1 hq31_v1 hq32_v1 ⟨by decide, by decide⟩ hM_v1 hA_f1 (Nat.lt_succ_self _) _ _ _ hP hD hS (lv_sub hl [0, 1, 2] rfl)
  exact lp1 _ 0 v f hIv rfl rfl rfl rfl rfl rfl rfl rfl ⟨by decide, by decide⟩ hM_v hA_f (Nat.lt_succ_self _) _ _ _ hP hD hS (lv_sub hl [0, 1] rfl)
