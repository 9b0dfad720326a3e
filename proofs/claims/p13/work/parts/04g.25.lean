def gsX_X1_illness_1 (NF : Nat) (p1 : Int32) (p2 : Int32) (v : Nat → Int32) (f : Nat → Nat → Int32) : Int32 × (Nat → Int32) × (Nat → Nat → Int32) :=
  let r1 : Int32 := gsX_X7_manPart_1 NF 0 p1 v f
  let r3 : Int32 := gsX_X1_manWide_1 NF p1 v f
  let r5 : Int32 := gsX_X1_part_1 NF 0 p2 v f
  let r7 : Int32 := gsX_X1_part_1 NF 1 p2 v f
  let r9 : Int32 := gsX_X1_part_1 NF 3 p2 v f
  let r11 : Int32 := gsX_X1_today_1 NF v f
  match gsX_X4_worth_1 NF r1 r3 r5 r7 r9 r11 v f with
  | (r13, v15, f16) =>
    (r13, v15, f16)
theorem gsX_X1_illness_1_q0 {NF : Nat} {p1 : Int32} {p2 : Int32} {v : Nat → Int32} {f : Nat → Nat → Int32} {r1 : Int32} {r3 : Int32} {r5 : Int32} {r7 : Int32} {r9 : Int32} {r11 : Int32} {r13 : Int32} {v15 : Nat → Int32} {f16 : Nat → Nat → Int32} (h0 : r1 = gsX_X7_manPart_1 NF 0 p1 v f) (h1 : r3 = gsX_X1_manWide_1 NF p1 v f) (h2 : r5 = gsX_X1_part_1 NF 0 p2 v f) (h3 : r7 = gsX_X1_part_1 NF 1 p2 v f) (h4 : r9 = gsX_X1_part_1 NF 3 p2 v f) (h5 : r11 = gsX_X1_today_1 NF v f) (h6 : gsX_X4_worth_1 NF r1 r3 r5 r7 r9 r11 v f = (r13, v15, f16)) : gsX_X1_illness_1 NF p1 p2 v f = (r13, v15, f16) := by
  subst h0 h1 h2 h3 h4 h5
  simp only [gsX_X1_illness_1, h6]
def gsX_X10_misfit_1 (NF : Nat) (p1 : Int32) (p2 : Int32) (v : Nat → Int32) (f : Nat → Nat → Int32) : Int32 × (Nat → Int32) × (Nat → Nat → Int32) :=
  if gsX_X7_hasMan_1 NF p1 v f = 1 then
    if gsX_X7_hasCoat_1 NF p2 v f = 1 then
      match gsX_X1_illness_1 NF p1 p2 v f with
      | (r7, v9, f10) =>
        (r7, v9, f10)
    else
      ((-1), v, f)
  else
    ((-1), v, f)
theorem gsX_X10_misfit_1_q0 {NF : Nat} {p1 : Int32} {p2 : Int32} {v : Nat → Int32} {f : Nat → Nat → Int32} {r7 : Int32} {v9 : Nat → Int32} {f10 : Nat → Nat → Int32} (h0 : gsX_X7_hasMan_1 NF p1 v f = 1) (h1 : gsX_X7_hasCoat_1 NF p2 v f = 1) (h2 : gsX_X1_illness_1 NF p1 p2 v f = (r7, v9, f10)) : gsX_X10_misfit_1 NF p1 p2 v f = (r7, v9, f10) := by
  simp only [gsX_X10_misfit_1, h0, h1, h2, ite11, ite01, if_true, if_false]
theorem gsX_X10_misfit_1_q1 {NF : Nat} {p1 : Int32} {p2 : Int32} {v : Nat → Int32} {f : Nat → Nat → Int32} (h0 : gsX_X7_hasMan_1 NF p1 v f = 1) (h1 : gsX_X7_hasCoat_1 NF p2 v f = 0) : gsX_X10_misfit_1 NF p1 p2 v f = ((-1), v, f) := by
  simp only [gsX_X10_misfit_1, h0, h1, ite11, ite01, if_true, if_false]
theorem gsX_X10_misfit_1_q2 {NF : Nat} {p1 : Int32} {p2 : Int32} {v : Nat → Int32} {f : Nat → Nat → Int32} (h0 : gsX_X7_hasMan_1 NF p1 v f = 0) : gsX_X10_misfit_1 NF p1 p2 v f = ((-1), v, f) := by
  simp only [gsX_X10_misfit_1, h0, ite11, ite01, if_true, if_false]
def gsX_X1_wears_1 (NF : Nat) (p1 : Int32) (v : Nat → Int32) (f : Nat → Nat → Int32) : Int32 :=
  if gsX_X7_hasMan_1 NF p1 v f = 1 then
    let t4 : Int32 := 6 + p1
    let t6 : Int32 := f 15 (t4).toNatClampNeg
    t6
  else
    (-1)
theorem gsX_X1_wears_1_q0 {NF : Nat} {p1 : Int32} {v : Nat → Int32} {f : Nat → Nat → Int32} {t4 : Int32} {t6 : Int32} (h0 : gsX_X7_hasMan_1 NF p1 v f = 1) (h1 : t4 = 6 + p1) (h2 : t6 = f 15 (t4).toNatClampNeg) : gsX_X1_wears_1 NF p1 v f = t6 := by
  subst h1 h2
  simp only [gsX_X1_wears_1, h0, ite11, ite01, if_true, if_false]
theorem gsX_X1_wears_1_q1 {NF : Nat} {p1 : Int32} {v : Nat → Int32} {f : Nat → Nat → Int32} (h0 : gsX_X7_hasMan_1 NF p1 v f = 0) : gsX_X1_wears_1 NF p1 v f = (-1) := by
  simp only [gsX_X1_wears_1, h0, ite11, ite01, if_true, if_false]
def gsX_X1_fits_1 (NF : Nat) (p1 : Int32) (p2 : Int32) (v : Nat → Int32) (f : Nat → Nat → Int32) : Int32 × (Nat → Int32) × (Nat → Nat → Int32) :=
  if gsX_X7_hasMan_1 NF p1 v f = 1 then
    if gsX_X7_hasCoat_1 NF p2 v f = 1 then
      match gsX_X1_illness_1 NF p1 p2 v f with
      | (r7, v9, f10) =>
        if (v9 33) < r7 then
          (0, v9, f10)
        else
          (1, v9, f10)
    else
      (0, v, f)
  else
    (0, v, f)
theorem gsX_X1_fits_1_q0 {NF : Nat} {p1 : Int32} {p2 : Int32} {v : Nat → Int32} {f : Nat → Nat → Int32} {r7 : Int32} {v9 : Nat → Int32} {f10 : Nat → Nat → Int32} (h0 : gsX_X7_hasMan_1 NF p1 v f = 1) (h1 : gsX_X7_hasCoat_1 NF p2 v f = 1) (h2 : gsX_X1_illness_1 NF p1 p2 v f = (r7, v9, f10)) (h3 : ((v9 33) < r7)) : gsX_X1_fits_1 NF p1 p2 v f = (0, v9, f10) := by
  simp only [gsX_X1_fits_1, h0, h1, h2, if_pos h3, ite11, ite01, if_true, if_false]
theorem gsX_X1_fits_1_q1 {NF : Nat} {p1 : Int32} {p2 : Int32} {v : Nat → Int32} {f : Nat → Nat → Int32} {r7 : Int32} {v9 : Nat → Int32} {f10 : Nat → Nat → Int32} (h0 : gsX_X7_hasMan_1 NF p1 v f = 1) (h1 : gsX_X7_hasCoat_1 NF p2 v f = 1) (h2 : gsX_X1_illness_1 NF p1 p2 v f = (r7, v9, f10)) (h3 : ¬ ((v9 33) < r7)) : gsX_X1_fits_1 NF p1 p2 v f = (1, v9, f10) := by
  simp only [gsX_X1_fits_1, h0, h1, h2, if_neg h3, ite11, ite01, if_true, if_false]
theorem gsX_X1_fits_1_q2 {NF : Nat} {p1 : Int32} {p2 : Int32} {v : Nat → Int32} {f : Nat → Nat → Int32} (h0 : gsX_X7_hasMan_1 NF p1 v f = 1) (h1 : gsX_X7_hasCoat_1 NF p2 v f = 0) : gsX_X1_fits_1 NF p1 p2 v f = (0, v, f) := by
  simp only [gsX_X1_fits_1, h0, h1, ite11, ite01, if_true, if_false]
theorem gsX_X1_fits_1_q3 {NF : Nat} {p1 : Int32} {p2 : Int32} {v : Nat → Int32} {f : Nat → Nat → Int32} (h0 : gsX_X7_hasMan_1 NF p1 v f = 0) : gsX_X1_fits_1 NF p1 p2 v f = (0, v, f) := by
  simp only [gsX_X1_fits_1, h0, ite11, ite01, if_true, if_false]
def gsX_X1_setWears_1 (NF : Nat) (p1 : Int32) (p2 : Int32) (v : Nat → Int32) (f : Nat → Nat → Int32) : (Nat → Int32) × (Nat → Nat → Int32) :=
  if gsX_X7_hasMan_1 NF p1 v f = 1 then
    let t4 : Int32 := 6 + p1
    let f6 : Nat → Nat → Int32 := upd2 f 15 (upd (f 15) t4.toNatClampNeg p2)
    (v, f6)
  else
    (v, f)
theorem gsX_X1_setWears_1_q0 {NF : Nat} {p1 : Int32} {p2 : Int32} {v : Nat → Int32} {f : Nat → Nat → Int32} {t4 : Int32} {f6 : Nat → Nat → Int32} (h0 : gsX_X7_hasMan_1 NF p1 v f = 1) (h1 : t4 = 6 + p1) (h2 : f6 = upd2 f 15 (upd (f 15) t4.toNatClampNeg p2)) : gsX_X1_setWears_1 NF p1 p2 v f = (v, f6) := by
  subst h1 h2
  simp only [gsX_X1_setWears_1, h0, ite11, ite01, if_true, if_false]
theorem gsX_X1_setWears_1_q1 {NF : Nat} {p1 : Int32} {p2 : Int32} {v : Nat → Int32} {f : Nat → Nat → Int32} (h0 : gsX_X7_hasMan_1 NF p1 v f = 0) : gsX_X1_setWears_1 NF p1 p2 v f = (v, f) := by
  simp only [gsX_X1_setWears_1, h0, ite11, ite01, if_true, if_false]
def gsX_X1_setPart_1 (NF : Nat) (p1 : Int32) (p2 : Int32) (p3 : Int32) (v : Nat → Int32) (f : Nat → Nat → Int32) : (Nat → Int32) × (Nat → Nat → Int32) :=
  if gsX_X7_hasCoat_1 NF p2 v f = 1 then
    if p1 < 0 then
      (v, f)
    else
      if 5 ≤ p1 then
        (v, f)
      else
        let t6 : Int32 := p1 * 6
        let t8 : Int32 := 12 + t6
        let t10 : Int32 := t8 + p2
        let f13 : Nat → Nat → Int32 := upd2 f 15 (upd (f 15) t10.toNatClampNeg p3)
        (v, f13)
  else
    (v, f)
theorem gsX_X1_setPart_1_q0 {NF : Nat} {p1 : Int32} {p2 : Int32} {p3 : Int32} {v : Nat → Int32} {f : Nat → Nat → Int32} (h0 : gsX_X7_hasCoat_1 NF p2 v f = 1) (h1 : (p1 < 0)) : gsX_X1_setPart_1 NF p1 p2 p3 v f = (v, f) := by
  simp only [gsX_X1_setPart_1, h0, if_pos h1, ite11, ite01, if_true, if_false]
theorem gsX_X1_setPart_1_q1 {NF : Nat} {p1 : Int32} {p2 : Int32} {p3 : Int32} {v : Nat → Int32} {f : Nat → Nat → Int32} (h0 : gsX_X7_hasCoat_1 NF p2 v f = 1) (h1 : ¬ (p1 < 0)) (h2 : (5 ≤ p1)) : gsX_X1_setPart_1 NF p1 p2 p3 v f = (v, f) := by
  simp only [gsX_X1_setPart_1, h0, if_neg h1, if_pos h2, ite11, ite01, if_true, if_false]
theorem gsX_X1_setPart_1_q2 {NF : Nat} {p1 : Int32} {p2 : Int32} {p3 : Int32} {v : Nat → Int32} {f : Nat → Nat → Int32} {t6 : Int32} {t8 : Int32} {t10 : Int32} {f13 : Nat → Nat → Int32} (h0 : gsX_X7_hasCoat_1 NF p2 v f = 1) (h1 : ¬ (p1 < 0)) (h2 : ¬ (5 ≤ p1)) (h3 : t6 = p1 * 6) (h4 : t8 = 12 + t6) (h5 : t10 = t8 + p2) (h6 : f13 = upd2 f 15 (upd (f 15) t10.toNatClampNeg p3)) : gsX_X1_setPart_1 NF p1 p2 p3 v f = (v, f13) := by
  subst h3 h4 h5 h6
  simp only [gsX_X1_setPart_1, h0, if_neg h1, if_neg h2, ite11, ite01, if_true, if_false]
theorem gsX_X1_setPart_1_q3 {NF : Nat} {p1 : Int32} {p2 : Int32} {p3 : Int32} {v : Nat → Int32} {f : Nat → Nat → Int32} (h0 : gsX_X7_hasCoat_1 NF p2 v f = 0) : gsX_X1_setPart_1 NF p1 p2 p3 v f = (v, f) := by
  simp only [gsX_X1_setPart_1, h0, ite11, ite01, if_true, if_false]
def gsX_X1_weather_1 (NF : Nat) (p1 : Int32) (p2 : Int32) (v : Nat → Int32) (f : Nat → Nat → Int32) : (Nat → Int32) × (Nat → Nat → Int32) :=
  let r1 : Int32 := gsX_X1_part_1 NF 3 p1 v f
  let t3 : Int32 := r1 + 1
  let t4 : Int32 := if t3 < (99 : Int32) then t3 else (99 : Int32)
  match gsX_X1_setPart_1 NF 3 p1 t4 v f with
  | (v6, f7) =>
    let r8 : Int32 := gsX_X1_part_1 NF 1 p1 v6 f7
    let t10 : Int32 := r8 - p2
    let t11 : Int32 := if (0 : Int32) < t10 then t10 else (0 : Int32)
    match gsX_X1_setPart_1 NF 1 p1 t11 v6 f7 with
    | (v13, f14) =>
      let r15 : Int32 := gsX_X1_part_1 NF 0 p1 v13 f14
      let t17 : Int32 := r15 - p2
      let t18 : Int32 := if (0 : Int32) < t17 then t17 else (0 : Int32)
      match gsX_X1_setPart_1 NF 0 p1 t18 v13 f14 with
      | (v20, f21) =>
        (v20, f21)
theorem gsX_X1_weather_1_q0 {NF : Nat} {p1 : Int32} {p2 : Int32} {v : Nat → Int32} {f : Nat → Nat → Int32} {r1 : Int32} {t3 : Int32} {t4 : Int32} {v6 : Nat → Int32} {f7 : Nat → Nat → Int32} {r8 : Int32} {t10 : Int32} {t11 : Int32} {v13 : Nat → Int32} {f14 : Nat → Nat → Int32} {r15 : Int32} {t17 : Int32} {t18 : Int32} {v20 : Nat → Int32} {f21 : Nat → Nat → Int32} (h0 : r1 = gsX_X1_part_1 NF 3 p1 v f) (h1 : t3 = r1 + 1) (h2 : t4 = if t3 < (99 : Int32) then t3 else (99 : Int32)) (h3 : gsX_X1_setPart_1 NF 3 p1 t4 v f = (v6, f7)) (h4 : r8 = gsX_X1_part_1 NF 1 p1 v6 f7) (h5 : t10 = r8 - p2) (h6 : t11 = if (0 : Int32) < t10 then t10 else (0 : Int32)) (h7 : gsX_X1_setPart_1 NF 1 p1 t11 v6 f7 = (v13, f14)) (h8 : r15 = gsX_X1_part_1 NF 0 p1 v13 f14) (h9 : t17 = r15 - p2) (h10 : t18 = if (0 : Int32) < t17 then t17 else (0 : Int32)) (h11 : gsX_X1_setPart_1 NF 0 p1 t18 v13 f14 = (v20, f21)) : gsX_X1_weather_1 NF p1 p2 v f = (v20, f21) := by
  subst h0 h1 h2 h4 h5 h6 h8 h9 h10
  simp only [gsX_X1_weather_1, h3, h7, h11]
def gsX_X1_passDay_1_L21 (NF : Nat) (v : Nat → Int32) : Nat → (Int32) → (Int32) → (Nat → Int32) → (Nat → Nat → Int32) → Int32 × (Nat → Int32) × (Nat → Nat → Int32)
  | 0, _, _, _, _ => (0, (fun _ => 0), (fun _ _ => 0))
  | n21 + 1, l3_21, l4_21, v21, f21 =>
    if (v 31) ≤ l4_21 then
      (l3_21, v21, f21)
    else
      let r25 : Int32 := gsX_X1_wears_1 NF l4_21 v21 f21
      if r25 = (-1) then
        let t28 : Int32 := l4_21 + 1
        gsX_X1_passDay_1_L21 NF v n21 l3_21 t28 v21 f21
      else
        let r30 : Int32 := gsX_X1_wears_1 NF l4_21 v21 f21
        match gsX_X1_fits_1 NF l4_21 r30 v21 f21 with
        | (r32, v34, f35) =>
          if r32 = 1 then
            let t37 : Int32 := l4_21 + 1
            gsX_X1_passDay_1_L21 NF v n21 l3_21 t37 v34 f35
          else
            match gsX_X1_setWears_1 NF l4_21 (-1) v34 f35 with
            | (v40, f41) =>
              let t42 : Int32 := 1 <<< (l4_21 &&& 31)
              let t43 : Int32 := l3_21 ||| t42
              let t44 : Int32 := l4_21 + 1
              gsX_X1_passDay_1_L21 NF v n21 t43 t44 v40 f41
def gsX_X1_passDay_1_L15 (NF : Nat) (v : Nat → Int32) : Nat → (Int32) → (Nat → Int32) → (Nat → Nat → Int32) → Int32 × (Nat → Int32) × (Nat → Nat → Int32)
  | 0, _, _, _ => (0, (fun _ => 0), (fun _ _ => 0))
  | n15 + 1, l3_15, v15, f15 =>
    if (v 31) ≤ l3_15 then
      let t18 : Int32 := f15 15 (42 : Int32).toNatClampNeg
      let t19 : Int32 := t18 + 1
      let f20 : Nat → Nat → Int32 := upd2 f15 15 (upd (f15 15) (42 : Int32).toNatClampNeg t19)
      gsX_X1_passDay_1_L21 NF v (4294967296 + NF) 0 0 v15 f20
    else
      let r47 : Int32 := gsX_X1_wears_1 NF l3_15 v15 f15
      match gsX_X1_weather_1 NF r47 0 v15 f15 with
      | (v50, f51) =>
        let t52 : Int32 := l3_15 + 1
        gsX_X1_passDay_1_L15 NF v n15 t52 v50 f51
def gsX_X1_passDay_1_L62 (NF : Nat) (v : Nat → Int32) : Nat → (Int32) → (Int32) → (Nat → Int32) → (Nat → Nat → Int32) → Int32 × (Nat → Int32) × (Nat → Nat → Int32)
  | 0, _, _, _, _ => (0, (fun _ => 0), (fun _ _ => 0))
  | n62 + 1, l3_62, l4_62, v62, f62 =>
    if (v 31) ≤ l4_62 then
      (l3_62, v62, f62)
    else
      let r66 : Int32 := gsX_X1_wears_1 NF l4_62 v62 f62
      if r66 = (-1) then
        let t69 : Int32 := l4_62 + 1
        gsX_X1_passDay_1_L62 NF v n62 l3_62 t69 v62 f62
      else
        let r71 : Int32 := gsX_X1_wears_1 NF l4_62 v62 f62
        match gsX_X1_fits_1 NF l4_62 r71 v62 f62 with
        | (r73, v75, f76) =>
          if r73 = 1 then
            let t78 : Int32 := l4_62 + 1
            gsX_X1_passDay_1_L62 NF v n62 l3_62 t78 v75 f76
          else
            match gsX_X1_setWears_1 NF l4_62 (-1) v75 f76 with
            | (v81, f82) =>
              let t83 : Int32 := 1 <<< (l4_62 &&& 31)
              let t84 : Int32 := l3_62 ||| t83
              let t85 : Int32 := l4_62 + 1
              gsX_X1_passDay_1_L62 NF v n62 t84 t85 v81 f82
def gsX_X1_passDay_1_L56 (NF : Nat) (v : Nat → Int32) : Nat → (Int32) → (Nat → Int32) → (Nat → Nat → Int32) → Int32 × (Nat → Int32) × (Nat → Nat → Int32)
  | 0, _, _, _ => (0, (fun _ => 0), (fun _ _ => 0))
  | n56 + 1, l3_56, v56, f56 =>
    if (v 31) ≤ l3_56 then
      let t59 : Int32 := f56 15 (42 : Int32).toNatClampNeg
      let t60 : Int32 := t59 + 1
      let f61 : Nat → Nat → Int32 := upd2 f56 15 (upd (f56 15) (42 : Int32).toNatClampNeg t60)
      gsX_X1_passDay_1_L62 NF v (4294967296 + NF) 0 0 v56 f61
    else
      let r88 : Int32 := gsX_X1_wears_1 NF l3_56 v56 f56
      match gsX_X1_weather_1 NF r88 1 v56 f56 with
      | (v91, f92) =>
        let t93 : Int32 := l3_56 + 1
        gsX_X1_passDay_1_L56 NF v n56 t93 v91 f92
def gsX_X1_passDay_1_L1 (NF : Nat) (p1 : Int32) (v : Nat → Int32) : Nat → (Int32) → (Nat → Int32) → (Nat → Nat → Int32) → Int32 × (Nat → Int32) × (Nat → Nat → Int32)
  | 0, _, _, _ => (0, (fun _ => 0), (fun _ _ => 0))
  | n1 + 1, l2_1, v1, f1 =>
    if (v 31) ≤ l2_1 then
      let t5 : Int32 := f1 15 (43 : Int32).toNatClampNeg
      let t6 : Int32 := t5 * 137
      let t7 : Int32 := t6 + 71
      let t8 : Int32 := t7 - t7 / 1000 * 1000
      let f9 : Nat → Nat → Int32 := upd2 f1 15 (upd (f1 15) (43 : Int32).toNatClampNeg t8)
      let t10 : Int32 := f9 15 (43 : Int32).toNatClampNeg
      let t11 : Int32 := t10 - t10 / 100 * 100
      if p1 ≤ t11 then
        gsX_X1_passDay_1_L15 NF v (4294967296 + NF) 0 v1 f9
      else
        gsX_X1_passDay_1_L56 NF v (4294967296 + NF) 0 v1 f9
    else
      let t97 : Int32 := f1 15 (l2_1).toNatClampNeg
      let r98 : Int32 := gsX_X7_manPart_1 NF 2 l2_1 v1 f1
      let t100 : Int32 := t97 + r98
      let t101 : Int32 := if t100 < (99 : Int32) then t100 else (99 : Int32)
      let f102 : Nat → Nat → Int32 := upd2 f1 15 (upd (f1 15) l2_1.toNatClampNeg t101)
      let t103 : Int32 := l2_1 + 1
      gsX_X1_passDay_1_L1 NF p1 v n1 t103 v1 f102
def gsX_X1_passDay_1 (NF : Nat) (p1 : Int32) (v : Nat → Int32) (f : Nat → Nat → Int32) : Int32 × (Nat → Int32) × (Nat → Nat → Int32) :=
  gsX_X1_passDay_1_L1 NF p1 v (4294967296 + NF) 0 v f
theorem gsX_X1_passDay_1_q15 {NF : Nat} {p1 : Int32} {v : Nat → Int32} {f : Nat → Nat → Int32}  : gsX_X1_passDay_1 NF p1 v f = gsX_X1_passDay_1_L1 NF p1 v (4294967296 + NF) 0 v f := by
  simp only [gsX_X1_passDay_1]
theorem gsX_X1_passDay_1_q6 {NF : Nat} {p1 : Int32} {v : Nat → Int32} {n1 : Nat} {l2_1 : Int32} {v1 : Nat → Int32} {f1 : Nat → Nat → Int32} {t5 : Int32} {t6 : Int32} {t7 : Int32} {t8 : Int32} {f9 : Nat → Nat → Int32} {t10 : Int32} {t11 : Int32} (h0 : ((v 31) ≤ l2_1)) (h1 : t5 = f1 15 (43 : Int32).toNatClampNeg) (h2 : t6 = t5 * 137) (h3 : t7 = t6 + 71) (h4 : t8 = t7 - t7 / 1000 * 1000) (h5 : f9 = upd2 f1 15 (upd (f1 15) (43 : Int32).toNatClampNeg t8)) (h6 : t10 = f9 15 (43 : Int32).toNatClampNeg) (h7 : t11 = t10 - t10 / 100 * 100) (h8 : (p1 ≤ t11)) : gsX_X1_passDay_1_L1 NF p1 v (n1 + 1) l2_1 v1 f1 = gsX_X1_passDay_1_L15 NF v (4294967296 + NF) 0 v1 f9 := by
  subst h1 h2 h3 h4 h5 h6 h7
  simp only [gsX_X1_passDay_1_L1, if_pos h0, if_pos h8]
theorem gsX_X1_passDay_1_q13 {NF : Nat} {p1 : Int32} {v : Nat → Int32} {n1 : Nat} {l2_1 : Int32} {v1 : Nat → Int32} {f1 : Nat → Nat → Int32} {t5 : Int32} {t6 : Int32} {t7 : Int32} {t8 : Int32} {f9 : Nat → Nat → Int32} {t10 : Int32} {t11 : Int32} (h0 : ((v 31) ≤ l2_1)) (h1 : t5 = f1 15 (43 : Int32).toNatClampNeg) (h2 : t6 = t5 * 137) (h3 : t7 = t6 + 71) (h4 : t8 = t7 - t7 / 1000 * 1000) (h5 : f9 = upd2 f1 15 (upd (f1 15) (43 : Int32).toNatClampNeg t8)) (h6 : t10 = f9 15 (43 : Int32).toNatClampNeg) (h7 : t11 = t10 - t10 / 100 * 100) (h8 : ¬ (p1 ≤ t11)) : gsX_X1_passDay_1_L1 NF p1 v (n1 + 1) l2_1 v1 f1 = gsX_X1_passDay_1_L56 NF v (4294967296 + NF) 0 v1 f9 := by
  subst h1 h2 h3 h4 h5 h6 h7
  simp only [gsX_X1_passDay_1_L1, if_pos h0, if_neg h8]
theorem gsX_X1_passDay_1_q14 {NF : Nat} {p1 : Int32} {v : Nat → Int32} {n1 : Nat} {l2_1 : Int32} {v1 : Nat → Int32} {f1 : Nat → Nat → Int32} {t97 : Int32} {r98 : Int32} {t100 : Int32} {t101 : Int32} {f102 : Nat → Nat → Int32} {t103 : Int32} (h0 : ¬ ((v 31) ≤ l2_1)) (h1 : t97 = f1 15 (l2_1).toNatClampNeg) (h2 : r98 = gsX_X7_manPart_1 NF 2 l2_1 v1 f1) (h3 : t100 = t97 + r98) (h4 : t101 = if t100 < (99 : Int32) then t100 else (99 : Int32)) (h5 : f102 = upd2 f1 15 (upd (f1 15) l2_1.toNatClampNeg t101)) (h6 : t103 = l2_1 + 1) : gsX_X1_passDay_1_L1 NF p1 v (n1 + 1) l2_1 v1 f1 = gsX_X1_passDay_1_L1 NF p1 v n1 t103 v1 f102 := by
  subst h1 h2 h3 h4 h5 h6
  simp only [gsX_X1_passDay_1_L1, if_neg h0]
theorem gsX_X1_passDay_1_q4 {NF : Nat} {v : Nat → Int32} {n15 : Nat} {l3_15 : Int32} {v15 : Nat → Int32} {f15 : Nat → Nat → Int32} {t18 : Int32} {t19 : Int32} {f20 : Nat → Nat → Int32} (h0 : ((v 31) ≤ l3_15)) (h1 : t18 = f15 15 (42 : Int32).toNatClampNeg) (h2 : t19 = t18 + 1) (h3 : f20 = upd2 f15 15 (upd (f15 15) (42 : Int32).toNatClampNeg t19)) : gsX_X1_passDay_1_L15 NF v (n15 + 1) l3_15 v15 f15 = gsX_X1_passDay_1_L21 NF v (4294967296 + NF) 0 0 v15 f20 := by
  subst h1 h2 h3
  simp only [gsX_X1_passDay_1_L15, if_pos h0]
theorem gsX_X1_passDay_1_q5 {NF : Nat} {v : Nat → Int32} {n15 : Nat} {l3_15 : Int32} {v15 : Nat → Int32} {f15 : Nat → Nat → Int32} {r47 : Int32} {v50 : Nat → Int32} {f51 : Nat → Nat → Int32} {t52 : Int32} (h0 : ¬ ((v 31) ≤ l3_15)) (h1 : r47 = gsX_X1_wears_1 NF l3_15 v15 f15) (h2 : gsX_X1_weather_1 NF r47 0 v15 f15 = (v50, f51)) (h3 : t52 = l3_15 + 1) : gsX_X1_passDay_1_L15 NF v (n15 + 1) l3_15 v15 f15 = gsX_X1_passDay_1_L15 NF v n15 t52 v50 f51 := by
  subst h1 h3
  simp only [gsX_X1_passDay_1_L15, if_neg h0, h2]
theorem gsX_X1_passDay_1_q0 {NF : Nat} {v : Nat → Int32} {n21 : Nat} {l3_21 : Int32} {l4_21 : Int32} {v21 : Nat → Int32} {f21 : Nat → Nat → Int32} (h0 : ((v 31) ≤ l4_21)) : gsX_X1_passDay_1_L21 NF v (n21 + 1) l3_21 l4_21 v21 f21 = (l3_21, v21, f21) := by
  simp only [gsX_X1_passDay_1_L21, if_pos h0]
theorem gsX_X1_passDay_1_q1 {NF : Nat} {v : Nat → Int32} {n21 : Nat} {l3_21 : Int32} {l4_21 : Int32} {v21 : Nat → Int32} {f21 : Nat → Nat → Int32} {r25 : Int32} {t28 : Int32} (h0 : ¬ ((v 31) ≤ l4_21)) (h1 : r25 = gsX_X1_wears_1 NF l4_21 v21 f21) (h2 : (r25 = (-1))) (h3 : t28 = l4_21 + 1) : gsX_X1_passDay_1_L21 NF v (n21 + 1) l3_21 l4_21 v21 f21 = gsX_X1_passDay_1_L21 NF v n21 l3_21 t28 v21 f21 := by
  subst h1 h3
  simp only [gsX_X1_passDay_1_L21, if_neg h0, if_pos h2]
theorem gsX_X1_passDay_1_q2 {NF : Nat} {v : Nat → Int32} {n21 : Nat} {l3_21 : Int32} {l4_21 : Int32} {v21 : Nat → Int32} {f21 : Nat → Nat → Int32} {r25 : Int32} {r30 : Int32} {v34 : Nat → Int32} {f35 : Nat → Nat → Int32} {t37 : Int32} (h0 : ¬ ((v 31) ≤ l4_21)) (h1 : r25 = gsX_X1_wears_1 NF l4_21 v21 f21) (h2 : ¬ (r25 = (-1))) (h3 : r30 = gsX_X1_wears_1 NF l4_21 v21 f21) (h4 : gsX_X1_fits_1 NF l4_21 r30 v21 f21 = (1, v34, f35)) (h6 : t37 = l4_21 + 1) : gsX_X1_passDay_1_L21 NF v (n21 + 1) l3_21 l4_21 v21 f21 = gsX_X1_passDay_1_L21 NF v n21 l3_21 t37 v34 f35 := by
  subst h1 h3 h6
  simp only [gsX_X1_passDay_1_L21, if_neg h0, if_neg h2, h4, ite11, ite01, if_true, if_false]
theorem gsX_X1_passDay_1_q3 {NF : Nat} {v : Nat → Int32} {n21 : Nat} {l3_21 : Int32} {l4_21 : Int32} {v21 : Nat → Int32} {f21 : Nat → Nat → Int32} {r25 : Int32} {r30 : Int32} {v34 : Nat → Int32} {f35 : Nat → Nat → Int32} {v40 : Nat → Int32} {f41 : Nat → Nat → Int32} {t42 : Int32} {t43 : Int32} {t44 : Int32} (h0 : ¬ ((v 31) ≤ l4_21)) (h1 : r25 = gsX_X1_wears_1 NF l4_21 v21 f21) (h2 : ¬ (r25 = (-1))) (h3 : r30 = gsX_X1_wears_1 NF l4_21 v21 f21) (h4 : gsX_X1_fits_1 NF l4_21 r30 v21 f21 = (0, v34, f35)) (h6 : gsX_X1_setWears_1 NF l4_21 (-1) v34 f35 = (v40, f41)) (h7 : t42 = 1 <<< (l4_21 &&& 31)) (h8 : t43 = l3_21 ||| t42) (h9 : t44 = l4_21 + 1) : gsX_X1_passDay_1_L21 NF v (n21 + 1) l3_21 l4_21 v21 f21 = gsX_X1_passDay_1_L21 NF v n21 t43 t44 v40 f41 := by
  subst h1 h3 h7 h8 h9
  simp only [gsX_X1_passDay_1_L21, if_neg h0, if_neg h2, h4, h6, ite11, ite01, if_true, if_false]
theorem gsX_X1_passDay_1_q11 {NF : Nat} {v : Nat → Int32} {n56 : Nat} {l3_56 : Int32} {v56 : Nat → Int32} {f56 : Nat → Nat → Int32} {t59 : Int32} {t60 : Int32} {f61 : Nat → Nat → Int32} (h0 : ((v 31) ≤ l3_56)) (h1 : t59 = f56 15 (42 : Int32).toNatClampNeg) (h2 : t60 = t59 + 1) (h3 : f61 = upd2 f56 15 (upd (f56 15) (42 : Int32).toNatClampNeg t60)) : gsX_X1_passDay_1_L56 NF v (n56 + 1) l3_56 v56 f56 = gsX_X1_passDay_1_L62 NF v (4294967296 + NF) 0 0 v56 f61 := by
  subst h1 h2 h3
  simp only [gsX_X1_passDay_1_L56, if_pos h0]
theorem gsX_X1_passDay_1_q12 {NF : Nat} {v : Nat → Int32} {n56 : Nat} {l3_56 : Int32} {v56 : Nat → Int32} {f56 : Nat → Nat → Int32} {r88 : Int32} {v91 : Nat → Int32} {f92 : Nat → Nat → Int32} {t93 : Int32} (h0 : ¬ ((v 31) ≤ l3_56)) (h1 : r88 = gsX_X1_wears_1 NF l3_56 v56 f56) (h2 : gsX_X1_weather_1 NF r88 1 v56 f56 = (v91, f92)) (h3 : t93 = l3_56 + 1) : gsX_X1_passDay_1_L56 NF v (n56 + 1) l3_56 v56 f56 = gsX_X1_passDay_1_L56 NF v n56 t93 v91 f92 := by
  subst h1 h3
  simp only [gsX_X1_passDay_1_L56, if_neg h0, h2]
theorem gsX_X1_passDay_1_q7 {NF : Nat} {v : Nat → Int32} {n62 : Nat} {l3_62 : Int32} {l4_62 : Int32} {v62 : Nat → Int32} {f62 : Nat → Nat → Int32} (h0 : ((v 31) ≤ l4_62)) : gsX_X1_passDay_1_L62 NF v (n62 + 1) l3_62 l4_62 v62 f62 = (l3_62, v62, f62) := by
  simp only [gsX_X1_passDay_1_L62, if_pos h0]
theorem gsX_X1_passDay_1_q8 {NF : Nat} {v : Nat → Int32} {n62 : Nat} {l3_62 : Int32} {l4_62 : Int32} {v62 : Nat → Int32} {f62 : Nat → Nat → Int32} {r66 : Int32} {t69 : Int32} (h0 : ¬ ((v 31) ≤ l4_62)) (h1 : r66 = gsX_X1_wears_1 NF l4_62 v62 f62) (h2 : (r66 = (-1))) (h3 : t69 = l4_62 + 1) : gsX_X1_passDay_1_L62 NF v (n62 + 1) l3_62 l4_62 v62 f62 = gsX_X1_passDay_1_L62 NF v n62 l3_62 t69 v62 f62 := by
  subst h1 h3
  simp only [gsX_X1_passDay_1_L62, if_neg h0, if_pos h2]
theorem gsX_X1_passDay_1_q9 {NF : Nat} {v : Nat → Int32} {n62 : Nat} {l3_62 : Int32} {l4_62 : Int32} {v62 : Nat → Int32} {f62 : Nat → Nat → Int32} {r66 : Int32} {r71 : Int32} {v75 : Nat → Int32} {f76 : Nat → Nat → Int32} {t78 : Int32} (h0 : ¬ ((v 31) ≤ l4_62)) (h1 : r66 = gsX_X1_wears_1 NF l4_62 v62 f62) (h2 : ¬ (r66 = (-1))) (h3 : r71 = gsX_X1_wears_1 NF l4_62 v62 f62) (h4 : gsX_X1_fits_1 NF l4_62 r71 v62 f62 = (1, v75, f76)) (h6 : t78 = l4_62 + 1) : gsX_X1_passDay_1_L62 NF v (n62 + 1) l3_62 l4_62 v62 f62 = gsX_X1_passDay_1_L62 NF v n62 l3_62 t78 v75 f76 := by
  subst h1 h3 h6
  simp only [gsX_X1_passDay_1_L62, if_neg h0, if_neg h2, h4, ite11, ite01, if_true, if_false]
theorem gsX_X1_passDay_1_q10 {NF : Nat} {v : Nat → Int32} {n62 : Nat} {l3_62 : Int32} {l4_62 : Int32} {v62 : Nat → Int32} {f62 : Nat → Nat → Int32} {r66 : Int32} {r71 : Int32} {v75 : Nat → Int32} {f76 : Nat → Nat → Int32} {v81 : Nat → Int32} {f82 : Nat → Nat → Int32} {t83 : Int32} {t84 : Int32} {t85 : Int32} (h0 : ¬ ((v 31) ≤ l4_62)) (h1 : r66 = gsX_X1_wears_1 NF l4_62 v62 f62) (h2 : ¬ (r66 = (-1))) (h3 : r71 = gsX_X1_wears_1 NF l4_62 v62 f62) (h4 : gsX_X1_fits_1 NF l4_62 r71 v62 f62 = (0, v75, f76)) (h6 : gsX_X1_setWears_1 NF l4_62 (-1) v75 f76 = (v81, f82)) (h7 : t83 = 1 <<< (l4_62 &&& 31)) (h8 : t84 = l3_62 ||| t83) (h9 : t85 = l4_62 + 1) : gsX_X1_passDay_1_L62 NF v (n62 + 1) l3_62 l4_62 v62 f62 = gsX_X1_passDay_1_L62 NF v n62 t84 t85 v81 f82 := by
  subst h1 h3 h7 h8 h9
  simp only [gsX_X1_passDay_1_L62, if_neg h0, if_neg h2, h4, h6, ite11, ite01, if_true, if_false]
