def gsX_X1_illness_1 (NF : Nat) (p1 : Int32) (p2 : Int32) (v : Nat → Int32) (f : Nat → Nat → Int32) : Int32 × (Nat → Int32) × (Nat → Nat → Int32) :=
  let r1 : Int32 := gsX_X7_manPart_1 NF 0 p1 v f
  let r3 : Int32 := gsX_X1_manWide_1 NF p1 v f
  let r5 : Int32 := gsX_X1_part_1 NF 0 p2 v f
  let r7 : Int32 := gsX_X1_part_1 NF 1 p2 v f
  let r9 : Int32 := gsX_X1_part_1 NF 3 p2 v f
  let r11 : Int32 := gsX_X1_today_1 NF v f
  match gsX_X4_worth_1 NF r1 r3 r5 r7 r9 r11 v f with
  | (r13, v15, f16) =>
    (r13, v15, f16)
theorem gsX_X1_illness_1_q0 {NF : Nat} {p1 : Int32} {p2 : Int32} {v : Nat → Int32} {f : Nat → Nat → Int32} {r1 : Int32} {r3 : Int32} {r5 : Int32} {r7 : Int32} {r9 : Int32} {r11 : Int32} {r13 : Int32} {v15 : Nat → Int32} {f16 : Nat → Nat → Int32} (h0 : r1 = gsX_X7_manPart_1 NF 0 p1 v f) (h1 : r3 = gsX_X1_manWide_1 NF p1 v f) (h2 : r5 = gsX_X1_part_1 NF 0 p2 v f) (h3 : r7 = gsX_X1_part_1 NF 1 p2 v f) (h4 : r9 = gsX_X1_part_1 NF 3 p2 v f) (h5 : r11 = gsX_X1_today_1 NF v f) (h6 : gsX_X4_worth_1 NF r1 r3 r5 r7 r9 r11 v f = (r13, v15, f16)) : gsX_X1_illness_1 NF p1 p2 v f = (r13, v15, f16) := by
  subst h0 h1 h2 h3 h4 h5
  simp only [gsX_X1_illness_1, h6]
def gsX_X10_misfit_1 (NF : Nat) (p1 : Int32) (p2 : Int32) (v : Nat → Int32) (f : Nat → Nat → Int32) : Int32 × (Nat → Int32) × (Nat → Nat → Int32) :=
  if gsX_X7_hasMan_1 NF p1 v f = 1 then
    if gsX_X7_hasCoat_1 NF p2 v f = 1 then
      match gsX_X1_illness_1 NF p1 p2 v f with
      | (r7, v9, f10) =>
        (r7, v9, f10)
    else
      ((-1), v, f)
  else
    ((-1), v, f)
theorem gsX_X10_misfit_1_q0 {NF : Nat} {p1 : Int32} {p2 : Int32} {v : Nat → Int32} {f : Nat → Nat → Int32} {r7 : Int32} {v9 : Nat → Int32} {f10 : Nat → Nat → Int32} (h0 : gsX_X7_hasMan_1 NF p1 v f = 1) (h1 : gsX_X7_hasCoat_1 NF p2 v f = 1) (h2 : gsX_X1_illness_1 NF p1 p2 v f = (r7, v9, f10)) : gsX_X10_misfit_1 NF p1 p2 v f = (r7, v9, f10) := by
  simp only [gsX_X10_misfit_1, h0, h1, h2, ite11, ite01, if_true, if_false]
theorem gsX_X10_misfit_1_q1 {NF : Nat} {p1 : Int32} {p2 : Int32} {v : Nat → Int32} {f : Nat → Nat → Int32} (h0 : gsX_X7_hasMan_1 NF p1 v f = 1) (h1 : gsX_X7_hasCoat_1 NF p2 v f = 0) : gsX_X10_misfit_1 NF p1 p2 v f = ((-1), v, f) := by
  simp only [gsX_X10_misfit_1, h0, h1, ite11, ite01, if_true, if_false]
theorem gsX_X10_misfit_1_q2 {NF : Nat} {p1 : Int32} {p2 : Int32} {v : Nat → Int32} {f : Nat → Nat → Int32} (h0 : gsX_X7_hasMan_1 NF p1 v f = 0) : gsX_X10_misfit_1 NF p1 p2 v f = ((-1), v, f) := by
  simp only [gsX_X10_misfit_1, h0, ite11, ite01, if_true, if_false]
def gsX_X1_wears_1 (NF : Nat) (p1 : Int32) (v : Nat → Int32) (f : Nat → Nat → Int32) : Int32 :=
  if gsX_X7_hasMan_1 NF p1 v f = 1 then
    let t4 : Int32 := 6 + p1
    let t6 : Int32 := f 15 (t4).toNatClampNeg
    t6
  else
    (-1)
theorem gsX_X1_wears_1_q0 {NF : Nat} {p1 : Int32} {v : Nat → Int32} {f : Nat → Nat → Int32} {t4 : Int32} {t6 : Int32} (h0 : gsX_X7_hasMan_1 NF p1 v f = 1) (h1 : t4 = 6 + p1) (h2 : t6 = f 15 (t4).toNatClampNeg) : gsX_X1_wears_1 NF p1 v f = t6 := by
  subst h1 h2
  simp only [gsX_X1_wears_1, h0, ite11, ite01, if_true, if_false]
theorem gsX_X1_wears_1_q1 {NF : Nat} {p1 : Int32} {v : Nat → Int32} {f : Nat → Nat → Int32} (h0 : gsX_X7_hasMan_1 NF p1 v f = 0) : gsX_X1_wears_1 NF p1 v f = (-1) := by
  simp only [gsX_X1_wears_1, h0, ite11, ite01, if_true, if_false]
def gsX_X1_fits_1 (NF : Nat) (p1 : Int32) (p2 : Int32) (v : Nat → Int32) (f : Nat → Nat → Int32) : Int32 × (Nat → Int32) × (Nat → Nat → Int32) :=
  if gsX_X7_hasMan_1 NF p1 v f = 1 then
    if gsX_X7_hasCoat_1 NF p2 v f = 1 then
      match gsX_X1_illness_1 NF p1 p2 v f with
      | (r7, v9, f10) =>
        if (v9 33) < r7 then
          (0, v9, f10)
        else
          (1, v9, f10)
    else
      (0, v, f)
  else
    (0, v, f)
theorem gsX_X1_fits_1_q0 {NF : Nat} {p1 : Int32} {p2 : Int32} {v : Nat → Int32} {f : Nat → Nat → Int32} {r7 : Int32} {v9 : Nat → Int32} {f10 : Nat → Nat → Int32} (h0 : gsX_X7_hasMan_1 NF p1 v f = 1) (h1 : gsX_X7_hasCoat_1 NF p2 v f = 1) (h2 : gsX_X1_illness_1 NF p1 p2 v f = (r7, v9, f10)) (h3 : ((v9 33) < r7)) : gsX_X1_fits_1 NF p1 p2 v f = (0, v9, f10) := by
  simp only [gsX_X1_fits_1, h0, h1, h2, if_pos h3, ite11, ite01, if_true, if_false]
theorem gsX_X1_fits_1_q1 {NF : Nat} {p1 : Int32} {p2 : Int32} {v : Nat → Int32} {f : Nat → Nat → Int32} {r7 : Int32} {v9 : Nat → Int32} {f10 : Nat → Nat → Int32} (h0 : gsX_X7_hasMan_1 NF p1 v f = 1) (h1 : gsX_X7_hasCoat_1 NF p2 v f = 1) (h2 : gsX_X1_illness_1 NF p1 p2 v f = (r7, v9, f10)) (h3 : ¬ ((v9 33) < r7)) : gsX_X1_fits_1 NF p1 p2 v f = (1, v9, f10) := by
  simp only [gsX_X1_fits_1, h0, h1, h2, if_neg h3, ite11, ite01, if_true, if_false]
theorem gsX_X1_fits_1_q2 {NF : Nat} {p1 : Int32} {p2 : Int32} {v : Nat → Int32} {f : Nat → Nat → Int32} (h0 : gsX_X7_hasMan_1 NF p1 v f = 1) (h1 : gsX_X7_hasCoat_1 NF p2 v f = 0) : gsX_X1_fits_1 NF p1 p2 v f = (0, v, f) := by
  simp only [gsX_X1_fits_1, h0, h1, ite11, ite01, if_true, if_false]
theorem gsX_X1_fits_1_q3 {NF : Nat} {p1 : Int32} {p2 : Int32} {v : Nat → Int32} {f : Nat → Nat → Int32} (h0 : gsX_X7_hasMan_1 NF p1 v f = 0) : gsX_X1_fits_1 NF p1 p2 v f = (0, v, f) := by
  simp only [gsX_X1_fits_1, h0, ite11, ite01, if_true, if_false]
def gsX_X1_setWears_1 (NF : Nat) (p1 : Int32) (p2 : Int32) (v : Nat → Int32) (f : Nat → Nat → Int32) : (Nat → Int32) × (Nat → Nat → Int32) :=
  if gsX_X7_hasMan_1 NF p1 v f = 1 then
    let t4 : Int32 := 6 + p1
    let f6 : Nat → Nat → Int32 := upd2 f 15 (upd (f 15) t4.toNatClampNeg p2)
    (v, f6)
  else
    (v, f)
theorem gsX_X1_setWears_1_q0 {NF : Nat} {p1 : Int32} {p2 : Int32} {v : Nat → Int32} {f : Nat → Nat → Int32} {t4 : Int32} {f6 : Nat → Nat → Int32} (h0 : gsX_X7_hasMan_1 NF p1 v f = 1) (h1 : t4 = 6 + p1) (h2 : f6 = upd2 f 15 (upd (f 15) t4.toNatClampNeg p2)) : gsX_X1_setWears_1 NF p1 p2 v f = (v, f6) := by
  subst h1 h2
  simp only [gsX_X1_setWears_1, h0, ite11, ite01, if_true, if_false]
theorem gsX_X1_setWears_1_q1 {NF : Nat} {p1 : Int32} {p2 : Int32} {v : Nat → Int32} {f : Nat → Nat → Int32} (h0 : gsX_X7_hasMan_1 NF p1 v f = 0) : gsX_X1_setWears_1 NF p1 p2 v f = (v, f) := by
  simp only [gsX_X1_setWears_1, h0, ite11, ite01, if_true, if_false]
def gsX_X1_setPart_1 (NF : Nat) (p1 : Int32) (p2 : Int32) (p3 : Int32) (v : Nat → Int32) (f : Nat → Nat → Int32) : (Nat → Int32) × (Nat → Nat → Int32) :=
  if gsX_X7_hasCoat_1 NF p2 v f = 1 then
    if p1 < 0 then
      (v, f)
    else
      if 5 ≤ p1 then
        (v, f)
      else
        let t6 : Int32 := p1 * 6
        let t8 : Int32 := 12 + t6
        let t10 : Int32 := t8 + p2
        let f13 : Nat → Nat → Int32 := upd2 f 15 (upd (f 15) t10.toNatClampNeg p3)
        (v, f13)
  else
    (v, f)
theorem gsX_X1_setPart_1_q0 {NF : Nat} {p1 : Int32} {p2 : Int32} {p3 : Int32} {v : Nat → Int32} {f : Nat → Nat → Int32} (h0 : gsX_X7_hasCoat_1 NF p2 v f = 1) (h1 : (p1 < 0)) : gsX_X1_setPart_1 NF p1 p2 p3 v f = (v, f) := by
  simp only [gsX_X1_setPart_1, h0, if_pos h1, ite11, ite01, if_true, if_false]
theorem gsX_X1_setPart_1_q1 {NF : Nat} {p1 : Int32} {p2 : Int32} {p3 : Int32} {v : Nat → Int32} {f : Nat → Nat → Int32} (h0 : gsX_X7_hasCoat_1 NF p2 v f = 1) (h1 : ¬ (p1 < 0)) (h2 : (5 ≤ p1)) : gsX_X1_setPart_1 NF p1 p2 p3 v f = (v, f) := by
  simp only [gsX_X1_setPart_1, h0, if_neg h1, if_pos h2, ite11, ite01, if_true, if_false]
theorem gsX_X1_setPart_1_q2 {NF : Nat} {p1 : Int32} {p2 : Int32} {p3 : Int32} {v : Nat → Int32} {f : Nat → Nat → Int32} {t6 : Int32} {t8 : Int32} {t10 : Int32} {f13 : Nat → Nat → Int32} (h0 : gsX_X7_hasCoat_1 NF p2 v f = 1) (h1 : ¬ (p1 < 0)) (h2 : ¬ (5 ≤ p1)) (h3 : t6 = p1 * 6) (h4 : t8 = 12 + t6) (h5 : t10 = t8 + p2) (h6 : f13 = upd2 f 15 (upd (f 15) t10.toNatClampNeg p3)) : gsX_X1_setPart_1 NF p1 p2 p3 v f = (v, f13) := by
  subst h3 h4 h5 h6
  simp only [gsX_X1_setPart_1, h0, if_neg h1, if_neg h2, ite11, ite01, if_true, if_false]
theorem gsX_X1_setPart_1_q3 {NF : Nat} {p1 : Int32} {p2 : Int32} {p3 : Int32} {v : Nat → Int32} {f : Nat → Nat → Int32} (h0 : gsX_X7_hasCoat_1 NF p2 v f = 0) : gsX_X1_setPart_1 NF p1 p2 p3 v f = (v, f) := by
  simp only [gsX_X1_setPart_1, h0, ite11, ite01, if_true, if_false]
def gsX_X1_weather_1 (NF : Nat) (p1 : Int32) (p2 : Int32) (v : Nat → Int32) (f : Nat → Nat → Int32) : (Nat → Int32) × (Nat → Nat → Int32) :=
  let r1 : Int32 := gsX_X1_part_1 NF 3 p1 v f
  let t3 : Int32 := r1 + 1
  let t4 : Int32 := if t3 < (99 : Int32) then t3 else (99 : Int32)
  match gsX_X1_setPart_1 NF 3 p1 t4 v f with
  | (v6, f7) =>
    let r8 : Int32 := gsX_X1_part_1 NF 1 p1 v6 f7
    let t10 : Int32 := r8 - p2
    let t11 : Int32 := if (0 : Int32) < t10 then t10 else (0 : Int32)
    match gsX_X1_setPart_1 NF 1 p1 t11 v6 f7 with
    | (v13, f14) =>
      let r15 : Int32 := gsX_X1_part_1 NF 0 p1 v13 f14
      let t17 : Int32 := r15 - p2
      let t18 : Int32 := if (0 : Int32) < t17 then t17 else (0 : Int32)
      match gsX_X1_setPart_1 NF 0 p1 t18 v13 f14 with
      | (v20, f21) =>
        (v20, f21)
theorem gsX_X1_weather_1_q0 {NF : Nat} {p1 : Int32} {p2 : Int32} {v : Nat → Int32} {f : Nat → Nat → Int32} {r1 : Int32} {t3 : Int32} {t4 : Int32} {v6 : Nat → Int32} {f7 : Nat → Nat → Int32} {r8 : Int32} {t10 : Int32} {t11 : Int32} {v13 : Nat → Int32} {f14 : Nat → Nat → Int32} {r15 : Int32} {t17 : Int32} {t18 : Int32} {v20 : Nat → Int32} {f21 : Nat → Nat → Int32} (h0 : r1 = gsX_X1_part_1 NF 3 p1 v f) (h1 : t3 = r1 + 1) (h2 : t4 = if t3 < (99 : Int32) then t3 else (99 : Int32)) (h3 : gsX_X1_setPart_1 NF 3 p1 t4 v f = (v6, f7)) (h4 : r8 = gsX_X1_part_1 NF 1 p1 v6 f7) (h5 : t10 = r8 - p2) (h6 : t11 = if (0 : Int32) < t10 then t10 else (0 : Int32)) (h7 : gsX_X1_setPart_1 NF 1 p1 t11 v6 f7 = (v13, f14)) (h8 : r15 = gsX_X1_part_1 NF 0 p1 v13 f14) (h9 : t17 = r15 - p2) (h10 : t18 = if (0 : Int32) < t17 then t17 else (0 : Int32)) (h11 : gsX_X1_setPart_1 NF 0 p1 t18 v13 f14 = (v20, f21)) : gsX_X1_weather_1 NF p1 p2 v f = (v20, f21) := by
  subst h0 h1 h2 h4 h5 h6 h8 h9 h10
  simp only [gsX_X1_weather_1, h3, h7, h11]
def gsX_X1_passDay_1_L21 (NF : Nat) (v : Nat → Int32) : Nat → (Int32) → (Int32) → (Nat → Int32) → (Nat → Nat → Int32) → Int32 × (Nat → Int32) × (Nat → Nat → Int32)
  | 0, _, _, _, _ => (0, (fun _ => 0), (fun _ _ => 0))
  | n21 + 1, l3_21, l4_21, v21, f21 =>
    if (v 31) ≤ l4_21 then
      (l3_21, v21, f21)
    else
      let r25 : Int32 := gsX_X1_wears_1 NF l4_21 v21 f21
      if r25 = (-1) then
        let t28 : Int32 := l4_21 + 1
        gsX_X1_passDay_1_L21 NF v n21 l3_21 t28 v21 f21
      else
        let r30 : Int32 := gsX_X1_wears_1 NF l4_21 v21 f21
        match gsX_X1_fits_1 NF l4_21 r30 v21 f21 with
        | (r32, v34, f35) =>
          if r32 = 1 then
            let t37 : Int32 := l4_21 + 1
            gsX_X1_passDay_1_L21 NF v n21 l3_21 t37 v34 f35
          else
            match gsX_X1_setWears_1 NF l4_21 (-1) v34 f35 with
            | (v40, f41) =>
              let t42 : Int32 := 1 <<< (l4_21 &&& 31)
              let t43 : Int32 := l3_21 ||| t42
              let t44 : Int32 := l4_21 + 1
              gsX_X1_passDay_1_L21 NF v n21 t43 t44 v40 f41
def gsX_X1_passDay_1_L15 (NF : Nat) (v : Nat → Int32) : Nat → (Int32) → (Nat → Int32) → (Nat → Nat → Int32) → Int32 × (Nat → Int32) × (Nat → Nat → Int32)
  | 0, _, _, _ => (0, (fun _ => 0), (fun _ _ => 0))
  | n15 + 1, l3_15, v15, f15 =>
    if (v 31) ≤ l3_15 then
      let t18 : Int32 := f15 15 (42 : Int32).toNatClampNeg
      let t19 : Int32 := t18 + 1
      let f20 : Nat → Nat → Int32 := upd2 f15 15 (upd (f15 15) (42 : Int32).toNatClampNeg t19)
      gsX_X1_passDay_1_L21 NF v (4294967296 + NF) 0 0 v15 f20
    else
      let r47 : Int32 := gsX_X1_wears_1 NF l3_15 v15 f15
      match gsX_X1_weather_1 NF r47 0 v15 f15 with
      | (v50, f51) =>
        let t52 : Int32 := l3_15 + 1
        gsX_X1_passDay_1_L15 NF v n15 t52 v50 f51
def gsX_X1_passDay_1_L62 (NF : Nat) (v : Nat → Int32) : Nat → (Int32) → (Int32) → (Nat → Int32) → (Nat → Nat → Int32) → Int32 × (Nat → Int32) × (Nat → Nat → Int32)
  | 0, _, _, _, _ => (0, (fun _ => 0), (fun _ _ => 0))
  | n62 + 1, l3_62, l4_62, v62, f62 =>
    if (v 31) ≤ l4_62 then
      (l3_62, v62, f62)
    else
      let r66 : Int32 := gsX_X1_wears_1 NF l4_62 v62 f62
      if r66 = (-1) then
        let t69 : Int32 := l4_62 + 1
        gsX_X1_passDay_1_L62 NF v n62 l3_62 t69 v62 f62
      else
        let r71 : Int32 := gsX_X1_wears_1 NF l4_62 v62 f62
        match gsX_X1_fits_1 NF l4_62 r71 v62 f62 with
        | (r73, v75, f76) =>
          if r73 = 1 then
            let t78 : Int32 := l4_62 + 1
            gsX_X1_passDay_1_L62 NF v n62 l3_62 t78 v75 f76
          else
            match gsX_X1_setWears_1 NF l4_62 (-1) v75 f76 with
            | (v81, f82) =>
              let t83 : Int32 := 1 <<< (l4_62 &&& 31)
              let t84 : Int32 := l3_62 ||| t83
              let t85 : Int32 := l4_62 + 1
              gsX_X1_passDay_1_L62 NF v n62 t84 t85 v81 f82
def gsX_X1_passDay_1_L56 (NF : Nat) (v : Nat → Int32) : Nat → (Int32) → (Nat → Int32) → (Nat → Nat → Int32) → Int32 × (Nat → Int32) × (Nat → Nat → Int32)
  | 0, _, _, _ => (0, (fun _ => 0), (fun _ _ => 0))
  | n56 + 1, l3_56, v56, f56 =>
    if (v 31) ≤ l3_56 then
      let t59 : Int32 := f56 15 (42 : Int32).toNatClampNeg
      let t60 : Int32 := t59 + 1
      let f61 : Nat → Nat → Int32 := upd2 f56 15 (upd (f56 15) (42 : Int32).toNatClampNeg t60)
      gsX_X1_passDay_1_L62 NF v (4294967296 + NF) 0 0 v56 f61
    else
      let r88 : Int32 := gsX_X1_wears_1 NF l3_56 v56 f56
      match gsX_X1_weather_1 NF r88 1 v56 f56 with
      | (v91, f92) =>
        let t93 : Int32 := l3_56 + 1
        gsX_X1_passDay_1_L56 NF v n56 t93 v91 f92
def gsX_X1_passDay_1_L1 (NF : Nat) (p1 : Int32) (v : Nat → Int32) : Nat → (Int32) → (Nat → Int32) → (Nat → Nat → Int32) → Int32 × (Nat → Int32) × (Nat → Nat → Int32)
  | 0, _, _, _ => (0, (fun _ => 0), (fun _ _ => 0))
  | n1 + 1, l2_1, v1, f1 =>
    if (v 31) ≤ l2_1 then
      let t5 : Int32 := f1 15 (43 : Int32).toNatClampNeg
      let t6 : Int32 := t5 * 137
      let t7 : Int32 := t6 + 71
      let t8 : Int32 := t7 - t7 / 1000 * 1000
      let f9 : Nat → Nat → Int32 := upd2 f1 15 (upd (f1 15) (43 : Int32).toNatClampNeg t8)
      let t10 : Int32 := f9 15 (43 : Int32).toNatClampNeg
      let t11 : Int32 := t10 - t10 / 100 * 100
      if p1 ≤ t11 then
        gsX_X1_passDay_1_L15 NF v (4294967296 + NF) 0 v1 f9
      else
        gsX_X1_passDay_1_L56 NF v (4294967296 + NF) 0 v1 f9
    else
      let t97 : Int32 := f1 15 (l2_1).toNatClampNeg
      let r98 : Int32 := gsX_X7_manPart_1 NF 2 l2_1 v1 f1
      let t100 : Int32 := t97 + r98
      let t101 : Int32 := if t100 < (99 : Int32) then t100 else (99 : Int32)
      let f102 : Nat → Nat → Int32 := upd2 f1 15 (upd (f1 15) l2_1.toNatClampNeg t101)
      let t103 : Int32 := l2_1 + 1
      gsX_X1_passDay_1_L1 NF p1 v n1 t103 v1 f102
def gsX_X1_passDay_1 (NF : Nat) (p1 : Int32) (v : Nat → Int32) (f : Nat → Nat → Int32) : Int32 × (Nat → Int32) × (Nat → Nat → Int32) :=
  gsX_X1_passDay_1_L1 NF p1 v (4294967296 + NF) 0 v f
theorem gsX_X1_passDay_1_q15 {NF : Nat} {p1 : Int32} {v : Nat → Int32} {f : Nat → Nat → Int32}  : gsX_X1_passDay_1 NF p1 v f = gsX_X1_passDay_1_L1 NF p1 v (4294967296 + NF) 0 v f := by
  simp only [gsX_X1_passDay_1]
theorem gsX_X1_passDay_1_q6 {NF : Nat} {p1 : Int32} {v : Nat → Int32} {n1 : Nat} {l2_1 : Int32} {v1 : Nat → Int32} {f1 : Nat → Nat → Int32} {t5 : Int32} {t6 : Int32} {t7 : Int32} {t8 : Int32} {f9 : Nat → Nat → Int32} {t10 : Int32} {t11 : Int32} (h0 : ((v 31) ≤ l2_1)) (h1 : t5 = f1 15 (43 : Int32).toNatClampNeg) (h2 : t6 = t5 * 137) (h3 : t7 = t6 + 71) (h4 : t8 = t7 - t7 / 1000 * 1000) (h5 : f9 = upd2 f1 15 (upd (f1 15) (43 : Int32).toNatClampNeg t8)) (h6 : t10 = f9 15 (43 : Int32).toNatClampNeg) (h7 : t11 = t10 - t10 / 100 * 100) (h8 : (p1 ≤ t11)) : gsX_X1_passDay_1_L1 NF p1 v (n1 + 1) l2_1 v1 f1 = gsX_X1_passDay_1_L15 NF v (4294967296 + NF) 0 v1 f9 := by
  subst h1 h2 h3 h4 h5 h6 h7
  simp only [gsX_X1_passDay_1_L1, if_pos h0, if_pos h8]
theorem gsX_X1_passDay_1_q13 {NF : Nat} {p1 : Int32} {v : Nat → Int32} {n1 : Nat} {l2_1 : Int32} {v1 : Nat → Int32} {f1 : Nat → Nat → Int32} {t5 : Int32} {t6 : Int32} {t7 : Int32} {t8 : Int32} {f9 : Nat → Nat → Int32} {t10 : Int32} {t11 : Int32} (h0 : ((v 31) ≤ l2_1)) (h1 : t5 = f1 15 (43 : Int32).toNatClampNeg) (h2 : t6 = t5 * 137) (h3 : t7 = t6 + 71) (h4 : t8 = t7 - t7 / 1000 * 1000) (h5 : f9 = upd2 f1 15 (upd (f1 15) (43 : Int32).toNatClampNeg t8)) (h6 : t10 = f9 15 (43 : Int32).toNatClampNeg) (h7 : t11 = t10 - t10 / 100 * 100) (h8 : ¬ (p1 ≤ t11)) : gsX_X1_passDay_1_L1 NF p1 v (n1 + 1) l2_1 v1 f1 = gsX_X1_passDay_1_L56 NF v (4294967296 + NF) 0 v1 f9 := by
  subst h1 h2 h3 h4 h5 h6 h7
  simp only [gsX_X1_passDay_1_L1, if_pos h0, if_neg h8]
theorem gsX_X1_passDay_1_q14 {NF : Nat} {p1 : Int32} {v : Nat → Int32} {n1 : Nat} {l2_1 : Int32} {v1 : Nat → Int32} {f1 : Nat → Nat → Int32} {t97 : Int32} {r98 : Int32} {t100 : Int32} {t101 : Int32} {f102 : Nat → Nat → Int32} {t103 : Int32} (h0 : ¬ ((v 31) ≤ l2_1)) (h1 : t97 = f1 15 (l2_1).toNatClampNeg) (h2 : r98 = gsX_X7_manPart_1 NF 2 l2_1 v1 f1) (h3 : t100 = t97 + r98) (h4 : t101 = if t100 < (99 : Int32) then t100 else (99 : Int32)) (h5 : f102 = upd2 f1 15 (upd (f1 15) l2_1.toNatClampNeg t101)) (h6 : t103 = l2_1 + 1) : gsX_X1_passDay_1_L1 NF p1 v (n1 + 1) l2_1 v1 f1 = gsX_X1_passDay_1_L1 NF p1 v n1 t103 v1 f102 := by
  subst h1 h2 h3 h4 h5 h6
  simp only [gsX_X1_passDay_1_L1, if_neg h0]
theorem gsX_X1_passDay_1_q4 {NF : Nat} {v : Nat → Int32} {n15 : Nat} {l3_15 : Int32} {v15 : Nat → Int32} {f15 : Nat → Nat → Int32} {t18 : Int32} {t19 : Int32} {f20 : Nat → Nat → Int32} (h0 : ((v 31) ≤ l3_15)) (h1 : t18 = f15 15 (42 : Int32).toNatClampNeg) (h2 : t19 = t18 + 1) (h3 : f20 = upd2 f15 15 (upd (f15 15) (42 : Int32).toNatClampNeg t19)) : gsX_X1_passDay_1_L15 NF v (n15 + 1) l3_15 v15 f15 = gsX_X1_passDay_1_L21 NF v (4294967296 + NF) 0 0 v15 f20 := by
  subst h1 h2 h3
  simp only [gsX_X1_passDay_1_L15, if_pos h0]
theorem gsX_X1_passDay_1_q5 {NF : Nat} {v : Nat → Int32} {n15 : Nat} {l3_15 : Int32} {v15 : Nat → Int32} {f15 : Nat → Nat → Int32} {r47 : Int32} {v50 : Nat → Int32} {f51 : Nat → Nat → Int32} {t52 : Int32} (h0 : ¬ ((v 31) ≤ l3_15)) (h1 : r47 = gsX_X1_wears_1 NF l3_15 v15 f15) (h2 : gsX_X1_weather_1 NF r47 0 v15 f15 = (v50, f51)) (h3 : t52 = l3_15 + 1) : gsX_X1_passDay_1_L15 NF v (n15 + 1) l3_15 v15 f15 = gsX_X1_passDay_1_L15 NF v n15 t52 v50 f51 := by
  subst h1 h3
  simp only [gsX_X1_passDay_1_L15, if_neg h0, h2]
theorem gsX_X1_passDay_1_q0 {NF : Nat} {v : Nat → Int32} {n21 : Nat} {l3_21 : Int32} {l4_21 : Int32} {v21 : Nat → Int32} {f21 : Nat → Nat → Int32} (h0 : ((v 31) ≤ l4_21)) : gsX_X1_passDay_1_L21 NF v (n21 + 1) l3_21 l4_21 v21 f21 = (l3_21, v21, f21) := by
  simp only [gsX_X1_passDay_1_L21, if_pos h0]
theorem gsX_X1_passDay_1_q1 {NF : Nat} {v : Nat → Int32} {n21 : Nat} {l3_21 : Int32} {l4_21 : Int32} {v21 : Nat → Int32} {f21 : Nat → Nat → Int32} {r25 : Int32} {t28 : Int32} (h0 : ¬ ((v 31) ≤ l4_21)) (h1 : r25 = gsX_X1_wears_1 NF l4_21 v21 f21) (h2 : (r25 = (-1))) (h3 : t28 = l4_21 + 1) : gsX_X1_passDay_1_L21 NF v (n21 + 1) l3_21 l4_21 v21 f21 = gsX_X1_passDay_1_L21 NF v n21 l3_21 t28 v21 f21 := by
  subst h1 h3
  simp only [gsX_X1_passDay_1_L21, if_neg h0, if_pos h2]
theorem gsX_X1_passDay_1_q2 {NF : Nat} {v : Nat → Int32} {n21 : Nat} {l3_21 : Int32} {l4_21 : Int32} {v21 : Nat → Int32} {f21 : Nat → Nat → Int32} {r25 : Int32} {r30 : Int32} {v34 : Nat → Int32} {f35 : Nat → Nat → Int32} {t37 : Int32} (h0 : ¬ ((v 31) ≤ l4_21)) (h1 : r25 = gsX_X1_wears_1 NF l4_21 v21 f21) (h2 : ¬ (r25 = (-1))) (h3 : r30 = gsX_X1_wears_1 NF l4_21 v21 f21) (h4 : gsX_X1_fits_1 NF l4_21 r30 v21 f21 = (1, v34, f35)) (h6 : t37 = l4_21 + 1) : gsX_X1_passDay_1_L21 NF v (n21 + 1) l3_21 l4_21 v21 f21 = gsX_X1_passDay_1_L21 NF v n21 l3_21 t37 v34 f35 := by
  subst h1 h3 h6
  simp only [gsX_X1_passDay_1_L21, if_neg h0, if_neg h2, h4, ite11, ite01, if_true, if_false]
theorem gsX_X1_passDay_1_q3 {NF : Nat} {v : Nat → Int32} {n21 : Nat} {l3_21 : Int32} {l4_21 : Int32} {v21 : Nat → Int32} {f21 : Nat → Nat → Int32} {r25 : Int32} {r30 : Int32} {v34 : Nat → Int32} {f35 : Nat → Nat → Int32} {v40 : Nat → Int32} {f41 : Nat → Nat → Int32} {t42 : Int32} {t43 : Int32} {t44 : Int32} (h0 : ¬ ((v 31) ≤ l4_21)) (h1 : r25 = gsX_X1_wears_1 NF l4_21 v21 f21) (h2 : ¬ (r25 = (-1))) (h3 : r30 = gsX_X1_wears_1 NF l4_21 v21 f21) (h4 : gsX_X1_fits_1 NF l4_21 r30 v21 f21 = (0, v34, f35)) (h6 : gsX_X1_setWears_1 NF l4_21 (-1) v34 f35 = (v40, f41)) (h7 : t42 = 1 <<< (l4_21 &&& 31)) (h8 : t43 = l3_21 ||| t42) (h9 : t44 = l4_21 + 1) : gsX_X1_passDay_1_L21 NF v (n21 + 1) l3_21 l4_21 v21 f21 = gsX_X1_passDay_1_L21 NF v n21 t43 t44 v40 f41 := by
  subst h1 h3 h7 h8 h9
  simp only [gsX_X1_passDay_1_L21, if_neg h0, if_neg h2, h4, h6, ite11, ite01, if_true, if_false]
theorem gsX_X1_passDay_1_q11 {NF : Nat} {v : Nat → Int32} {n56 : Nat} {l3_56 : Int32} {v56 : Nat → Int32} {f56 : Nat → Nat → Int32} {t59 : Int32} {t60 : Int32} {f61 : Nat → Nat → Int32} (h0 : ((v 31) ≤ l3_56)) (h1 : t59 = f56 15 (42 : Int32).toNatClampNeg) (h2 : t60 = t59 + 1) (h3 : f61 = upd2 f56 15 (upd (f56 15) (42 : Int32).toNatClampNeg t60)) : gsX_X1_passDay_1_L56 NF v (n56 + 1) l3_56 v56 f56 = gsX_X1_passDay_1_L62 NF v (4294967296 + NF) 0 0 v56 f61 := by
  subst h1 h2 h3
  simp only [gsX_X1_passDay_1_L56, if_pos h0]
theorem gsX_X1_passDay_1_q12 {NF : Nat} {v : Nat → Int32} {n56 : Nat} {l3_56 : Int32} {v56 : Nat → Int32} {f56 : Nat → Nat → Int32} {r88 : Int32} {v91 : Nat → Int32} {f92 : Nat → Nat → Int32} {t93 : Int32} (h0 : ¬ ((v 31) ≤ l3_56)) (h1 : r88 = gsX_X1_wears_1 NF l3_56 v56 f56) (h2 : gsX_X1_weather_1 NF r88 1 v56 f56 = (v91, f92)) (h3 : t93 = l3_56 + 1) : gsX_X1_passDay_1_L56 NF v (n56 + 1) l3_56 v56 f56 = gsX_X1_passDay_1_L56 NF v n56 t93 v91 f92 := by
  subst h1 h3
  simp only [gsX_X1_passDay_1_L56, if_neg h0, h2]
theorem gsX_X1_passDay_1_q7 {NF : Nat} {v : Nat → Int32} {n62 : Nat} {l3_62 : Int32} {l4_62 : Int32} {v62 : Nat → Int32} {f62 : Nat → Nat → Int32} (h0 : ((v 31) ≤ l4_62)) : gsX_X1_passDay_1_L62 NF v (n62 + 1) l3_62 l4_62 v62 f62 = (l3_62, v62, f62) := by
  simp only [gsX_X1_passDay_1_L62, if_pos h0]
theorem gsX_X1_passDay_1_q8 {NF : Nat} {v : Nat → Int32} {n62 : Nat} {l3_62 : Int32} {l4_62 : Int32} {v62 : Nat → Int32} {f62 : Nat → Nat → Int32} {r66 : Int32} {t69 : Int32} (h0 : ¬ ((v 31) ≤ l4_62)) (h1 : r66 = gsX_X1_wears_1 NF l4_62 v62 f62) (h2 : (r66 = (-1))) (h3 : t69 = l4_62 + 1) : gsX_X1_passDay_1_L62 NF v (n62 + 1) l3_62 l4_62 v62 f62 = gsX_X1_passDay_1_L62 NF v n62 l3_62 t69 v62 f62 := by
  subst h1 h3
  simp only [gsX_X1_passDay_1_L62, if_neg h0, if_pos h2]
theorem gsX_X1_passDay_1_q9 {NF : Nat} {v : Nat → Int32} {n62 : Nat} {l3_62 : Int32} {l4_62 : Int32} {v62 : Nat → Int32} {f62 : Nat → Nat → Int32} {r66 : Int32} {r71 : Int32} {v75 : Nat → Int32} {f76 : Nat → Nat → Int32} {t78 : Int32} (h0 : ¬ ((v 31) ≤ l4_62)) (h1 : r66 = gsX_X1_wears_1 NF l4_62 v62 f62) (h2 : ¬ (r66 = (-1))) (h3 : r71 = gsX_X1_wears_1 NF l4_62 v62 f62) (h4 : gsX_X1_fits_1 NF l4_62 r71 v62 f62 = (1, v75, f76)) (h6 : t78 = l4_62 + 1) : gsX_X1_passDay_1_L62 NF v (n62 + 1) l3_62 l4_62 v62 f62 = gsX_X1_passDay_1_L62 NF v n62 l3_62 t78 v75 f76 := by
  subst h1 h3 h6
  simp only [gsX_X1_passDay_1_L62, if_neg h0, if_neg h2, h4, ite11, ite01, if_true, if_false]
theorem gsX_X1_passDay_1_q10 {NF : Nat} {v : Nat → Int32} {n62 : Nat} {l3_62 : Int32} {l4_62 : Int32} {v62 : Nat → Int32} {f62 : Nat → Nat → Int32} {r66 : Int32} {r71 : Int32} {v75 : Nat → Int32} {f76 : Nat → Nat → Int32} {v81 : Nat → Int32} {f82 : Nat → Nat → Int32} {t83 : Int32} {t84 : Int32} {t85 : Int32} (h0 : ¬ ((v 31) ≤ l4_62)) (h1 : r66 = gsX_X1_wears_1 NF l4_62 v62 f62) (h2 : ¬ (r66 = (-1))) (h3 : r71 = gsX_X1_wears_1 NF l4_62 v62 f62) (h4 : gsX_X1_fits_1 NF l4_62 r71 v62 f62 = (0, v75, f76)) (h6 : gsX_X1_setWears_1 NF l4_62 (-1) v75 f76 = (v81, f82)) (h7 : t83 = 1 <<< (l4_62 &&& 31)) (h8 : t84 = l3_62 ||| t83) (h9 : t85 = l4_62 + 1) : gsX_X1_passDay_1_L62 NF v (n62 + 1) l3_62 l4_62 v62 f62 = gsX_X1_passDay_1_L62 NF v n62 t84 t85 v81 f82 := by
  subst h1 h3 h7 h8 h9
  simp only [gsX_X1_passDay_1_L62, if_neg h0, if_neg h2, h4, h6, ite11, ite01, if_true, if_false]
def gsX_X5_keepAct_1 (NF : Nat) (v : Nat → Int32) (f : Nat → Nat → Int32) : (Nat → Int32) × (Nat → Nat → Int32) :=
  if 40 ≤ (v 22) then
    let t2 : Int32 := (v 21) + 1
    let t3 : Int32 := t2 - t2 / 41 * 41
    let t4 : Int32 := t3 + (v 22)
    let t5 : Int32 := t4 - t4 / 41 * 41
    match gsX_X1_saveTo_1 NF t5 (upd (upd v 23 0) 21 t3) f with
    | (v7, f8) =>
      (v7, f8)
  else
    let t9 : Int32 := (v 22) + 1
    let t11 : Int32 := (v 21) + t9
    let t12 : Int32 := t11 - t11 / 41 * 41
    match gsX_X1_saveTo_1 NF t12 (upd (upd v 23 0) 22 t9) f with
    | (v14, f15) =>
      (v14, f15)
theorem gsX_X5_keepAct_1_q0 {NF : Nat} {v : Nat → Int32} {f : Nat → Nat → Int32} {t2 : Int32} {t3 : Int32} {t4 : Int32} {t5 : Int32} {v7 : Nat → Int32} {f8 : Nat → Nat → Int32} (h0 : (40 ≤ (v 22))) (h1 : t2 = (v 21) + 1) (h2 : t3 = t2 - t2 / 41 * 41) (h3 : t4 = t3 + (v 22)) (h4 : t5 = t4 - t4 / 41 * 41) (h5 : gsX_X1_saveTo_1 NF t5 (upd (upd v 23 0) 21 t3) f = (v7, f8)) : gsX_X5_keepAct_1 NF v f = (v7, f8) := by
  subst h1 h2 h3 h4
  simp only [gsX_X5_keepAct_1, if_pos h0, h5]
theorem gsX_X5_keepAct_1_q1 {NF : Nat} {v : Nat → Int32} {f : Nat → Nat → Int32} {t9 : Int32} {t11 : Int32} {t12 : Int32} {v14 : Nat → Int32} {f15 : Nat → Nat → Int32} (h0 : ¬ (40 ≤ (v 22))) (h1 : t9 = (v 22) + 1) (h2 : t11 = (v 21) + t9) (h3 : t12 = t11 - t11 / 41 * 41) (h4 : gsX_X1_saveTo_1 NF t12 (upd (upd v 23 0) 22 t9) f = (v14, f15)) : gsX_X5_keepAct_1 NF v f = (v14, f15) := by
  subst h1 h2 h3
  simp only [gsX_X5_keepAct_1, if_neg h0, h4]
def gsX_X10_day_1 (NF : Nat) (v : Nat → Int32) (f : Nat → Nat → Int32) : Int32 × (Nat → Int32) × (Nat → Nat → Int32) :=
  let r1 : Int32 := gsX_X1_today_1 NF v f
  if r1 < 999 then
    match gsX_X1_passDay_1 NF (v 36) v f with
    | (r4, v6, f7) =>
      match gsX_X5_keepAct_1 NF v6 f7 with
      | (v9, f10) =>
        (r4, v9, f10)
  else
    ((-1), v, f)
theorem gsX_X10_day_1_q0 {NF : Nat} {v : Nat → Int32} {f : Nat → Nat → Int32} {r1 : Int32} {r4 : Int32} {v6 : Nat → Int32} {f7 : Nat → Nat → Int32} {v9 : Nat → Int32} {f10 : Nat → Nat → Int32} (h0 : r1 = gsX_X1_today_1 NF v f) (h1 : (r1 < 999)) (h2 : gsX_X1_passDay_1 NF (v 36) v f = (r4, v6, f7)) (h3 : gsX_X5_keepAct_1 NF v6 f7 = (v9, f10)) : gsX_X10_day_1 NF v f = (r4, v9, f10) := by
  subst h0
  simp only [gsX_X10_day_1, if_pos h1, h2, h3]
theorem gsX_X10_day_1_q1 {NF : Nat} {v : Nat → Int32} {f : Nat → Nat → Int32} {r1 : Int32} (h0 : r1 = gsX_X1_today_1 NF v f) (h1 : ¬ (r1 < 999)) : gsX_X10_day_1 NF v f = ((-1), v, f) := by
  subst h0
  simp only [gsX_X10_day_1, if_neg h1]
def gsX_X1_wearer_1_L1 (NF : Nat) (p1 : Int32) (v : Nat → Int32) (f : Nat → Nat → Int32) : Nat → (Int32) → Int32
  | 0, _ => 0
  | n1 + 1, l2_1 =>
    if (v 31) ≤ l2_1 then
      (-1)
    else
      let r7 : Int32 := gsX_X1_wears_1 NF l2_1 v f
      if r7 = p1 then
        l2_1
      else
        let t12 : Int32 := l2_1 + 1
        gsX_X1_wearer_1_L1 NF p1 v f n1 t12
def gsX_X1_wearer_1 (NF : Nat) (p1 : Int32) (v : Nat → Int32) (f : Nat → Nat → Int32) : Int32 :=
  gsX_X1_wearer_1_L1 NF p1 v f (4294967296 + NF) 0
theorem gsX_X1_wearer_1_q3 {NF : Nat} {p1 : Int32} {v : Nat → Int32} {f : Nat → Nat → Int32}  : gsX_X1_wearer_1 NF p1 v f = gsX_X1_wearer_1_L1 NF p1 v f (4294967296 + NF) 0 := by
  simp only [gsX_X1_wearer_1]
theorem gsX_X1_wearer_1_q0 {NF : Nat} {p1 : Int32} {v : Nat → Int32} {f : Nat → Nat → Int32} {n1 : Nat} {l2_1 : Int32} (h0 : ((v 31) ≤ l2_1)) : gsX_X1_wearer_1_L1 NF p1 v f (n1 + 1) l2_1 = (-1) := by
  simp only [gsX_X1_wearer_1_L1, if_pos h0]
theorem gsX_X1_wearer_1_q1 {NF : Nat} {p1 : Int32} {v : Nat → Int32} {f : Nat → Nat → Int32} {n1 : Nat} {l2_1 : Int32} {r7 : Int32} {t12 : Int32} (h0 : ¬ ((v 31) ≤ l2_1)) (h1 : r7 = gsX_X1_wears_1 NF l2_1 v f) (h2 : ¬ (r7 = p1)) (h3 : t12 = l2_1 + 1) : gsX_X1_wearer_1_L1 NF p1 v f (n1 + 1) l2_1 = gsX_X1_wearer_1_L1 NF p1 v f n1 t12 := by
  subst h1 h3
  simp only [gsX_X1_wearer_1_L1, if_neg h0, if_neg h2]
theorem gsX_X1_wearer_1_q2 {NF : Nat} {p1 : Int32} {v : Nat → Int32} {f : Nat → Nat → Int32} {n1 : Nat} {l2_1 : Int32} {r7 : Int32} (h0 : ¬ ((v 31) ≤ l2_1)) (h1 : r7 = gsX_X1_wears_1 NF l2_1 v f) (h2 : (r7 = p1)) : gsX_X1_wearer_1_L1 NF p1 v f (n1 + 1) l2_1 = l2_1 := by
  subst h1
  simp only [gsX_X1_wearer_1_L1, if_neg h0, if_pos h2]
def gsX_X10_don_1 (NF : Nat) (p1 : Int32) (p2 : Int32) (v : Nat → Int32) (f : Nat → Nat → Int32) : Int32 × (Nat → Int32) × (Nat → Nat → Int32) :=
  if gsX_X7_hasMan_1 NF p1 v f = 1 then
    if gsX_X7_hasCoat_1 NF p2 v f = 1 then
      let r7 : Int32 := gsX_X1_wearer_1 NF p2 v f
      if r7 = (-1) then
        let r10 : Int32 := gsX_X1_wears_1 NF p1 v f
        match gsX_X1_setWears_1 NF p1 p2 v f with
        | (v13, f14) =>
          match gsX_X5_keepAct_1 NF v13 f14 with
          | (v16, f17) =>
            (r10, v16, f17)
      else
        ((-2), v, f)
    else
      ((-2), v, f)
  else
    ((-2), v, f)
theorem gsX_X10_don_1_q0 {NF : Nat} {p1 : Int32} {p2 : Int32} {v : Nat → Int32} {f : Nat → Nat → Int32} {r7 : Int32} {r10 : Int32} {v13 : Nat → Int32} {f14 : Nat → Nat → Int32} {v16 : Nat → Int32} {f17 : Nat → Nat → Int32} (h0 : gsX_X7_hasMan_1 NF p1 v f = 1) (h1 : gsX_X7_hasCoat_1 NF p2 v f = 1) (h2 : r7 = gsX_X1_wearer_1 NF p2 v f) (h3 : (r7 = (-1))) (h4 : r10 = gsX_X1_wears_1 NF p1 v f) (h5 : gsX_X1_setWears_1 NF p1 p2 v f = (v13, f14)) (h6 : gsX_X5_keepAct_1 NF v13 f14 = (v16, f17)) : gsX_X10_don_1 NF p1 p2 v f = (r10, v16, f17) := by
  subst h2 h4
  simp only [gsX_X10_don_1, h0, h1, if_pos h3, h5, h6, ite11, ite01, if_true, if_false]
theorem gsX_X10_don_1_q1 {NF : Nat} {p1 : Int32} {p2 : Int32} {v : Nat → Int32} {f : Nat → Nat → Int32} {r7 : Int32} (h0 : gsX_X7_hasMan_1 NF p1 v f = 1) (h1 : gsX_X7_hasCoat_1 NF p2 v f = 1) (h2 : r7 = gsX_X1_wearer_1 NF p2 v f) (h3 : ¬ (r7 = (-1))) : gsX_X10_don_1 NF p1 p2 v f = ((-2), v, f) := by
  subst h2
  simp only [gsX_X10_don_1, h0, h1, if_neg h3, ite11, ite01, if_true, if_false]
theorem gsX_X10_don_1_q2 {NF : Nat} {p1 : Int32} {p2 : Int32} {v : Nat → Int32} {f : Nat → Nat → Int32} (h0 : gsX_X7_hasMan_1 NF p1 v f = 1) (h1 : gsX_X7_hasCoat_1 NF p2 v f = 0) : gsX_X10_don_1 NF p1 p2 v f = ((-2), v, f) := by
  simp only [gsX_X10_don_1, h0, h1, ite11, ite01, if_true, if_false]
theorem gsX_X10_don_1_q3 {NF : Nat} {p1 : Int32} {p2 : Int32} {v : Nat → Int32} {f : Nat → Nat → Int32} (h0 : gsX_X7_hasMan_1 NF p1 v f = 0) : gsX_X10_don_1 NF p1 p2 v f = ((-2), v, f) := by
  simp only [gsX_X10_don_1, h0, ite11, ite01, if_true, if_false]
def gsX_X10_doff_1 (NF : Nat) (p1 : Int32) (v : Nat → Int32) (f : Nat → Nat → Int32) : Int32 × (Nat → Int32) × (Nat → Nat → Int32) :=
  let r1 : Int32 := gsX_X1_wears_1 NF p1 v f
  if r1 = (-1) then
    ((-1), v, f)
  else
    match gsX_X1_setWears_1 NF p1 (-1) v f with
    | (v5, f6) =>
      match gsX_X5_keepAct_1 NF v5 f6 with
      | (v8, f9) =>
        (r1, v8, f9)
theorem gsX_X10_doff_1_q0 {NF : Nat} {p1 : Int32} {v : Nat → Int32} {f : Nat → Nat → Int32} {r1 : Int32} {v5 : Nat → Int32} {f6 : Nat → Nat → Int32} {v8 : Nat → Int32} {f9 : Nat → Nat → Int32} (h0 : r1 = gsX_X1_wears_1 NF p1 v f) (h1 : ¬ (r1 = (-1))) (h2 : gsX_X1_setWears_1 NF p1 (-1) v f = (v5, f6)) (h3 : gsX_X5_keepAct_1 NF v5 f6 = (v8, f9)) : gsX_X10_doff_1 NF p1 v f = (r1, v8, f9) := by
  subst h0
  simp only [gsX_X10_doff_1, if_neg h1, h2, h3]
theorem gsX_X10_doff_1_q1 {NF : Nat} {p1 : Int32} {v : Nat → Int32} {f : Nat → Nat → Int32} {r1 : Int32} (h0 : r1 = gsX_X1_wears_1 NF p1 v f) (h1 : (r1 = (-1))) : gsX_X10_doff_1 NF p1 v f = ((-1), v, f) := by
  subst h0
  simp only [gsX_X10_doff_1, if_pos h1]
def gsX_X10_widen_1 (NF : Nat) (p1 : Int32) (p2 : Int32) (v : Nat → Int32) (f : Nat → Nat → Int32) : Int32 × (Nat → Int32) × (Nat → Nat → Int32) :=
  let r1 : Int32 := gsX_X1_part_1 NF 1 p1 v f
  let t3 : Int32 := r1 + p2
  let r4 : Int32 := gsX_X1_part_1 NF 2 p1 v f
  let t6 : Int32 := r4 - p2
  if 99 < t3 then
    ((-1), v, f)
  else
    if t6 ≤ 99 then
      match gsX_X1_setPart_1 NF 1 p1 t3 v f with
      | (v10, f11) =>
        match gsX_X1_setPart_1 NF 2 p1 t6 v10 f11 with
        | (v13, f14) =>
          match gsX_X5_keepAct_1 NF v13 f14 with
          | (v16, f17) =>
            (t3, v16, f17)
    else
      ((-1), v, f)
theorem gsX_X10_widen_1_q0 {NF : Nat} {p1 : Int32} {p2 : Int32} {v : Nat → Int32} {f : Nat → Nat → Int32} {r1 : Int32} {t3 : Int32} {r4 : Int32} {t6 : Int32} (h0 : r1 = gsX_X1_part_1 NF 1 p1 v f) (h1 : t3 = r1 + p2) (h2 : r4 = gsX_X1_part_1 NF 2 p1 v f) (h3 : t6 = r4 - p2) (h4 : (99 < t3)) : gsX_X10_widen_1 NF p1 p2 v f = ((-1), v, f) := by
  subst h0 h1 h2 h3
  simp only [gsX_X10_widen_1, if_pos h4]
theorem gsX_X10_widen_1_q1 {NF : Nat} {p1 : Int32} {p2 : Int32} {v : Nat → Int32} {f : Nat → Nat → Int32} {r1 : Int32} {t3 : Int32} {r4 : Int32} {t6 : Int32} {v10 : Nat → Int32} {f11 : Nat → Nat → Int32} {v13 : Nat → Int32} {f14 : Nat → Nat → Int32} {v16 : Nat → Int32} {f17 : Nat → Nat → Int32} (h0 : r1 = gsX_X1_part_1 NF 1 p1 v f) (h1 : t3 = r1 + p2) (h2 : r4 = gsX_X1_part_1 NF 2 p1 v f) (h3 : t6 = r4 - p2) (h4 : ¬ (99 < t3)) (h5 : (t6 ≤ 99)) (h6 : gsX_X1_setPart_1 NF 1 p1 t3 v f = (v10, f11)) (h7 : gsX_X1_setPart_1 NF 2 p1 t6 v10 f11 = (v13, f14)) (h8 : gsX_X5_keepAct_1 NF v13 f14 = (v16, f17)) : gsX_X10_widen_1 NF p1 p2 v f = (t3, v16, f17) := by
  subst h0 h1 h2 h3
  simp only [gsX_X10_widen_1, if_neg h4, if_pos h5, h6, h7, h8]
theorem gsX_X10_widen_1_q2 {NF : Nat} {p1 : Int32} {p2 : Int32} {v : Nat → Int32} {f : Nat → Nat → Int32} {r1 : Int32} {t3 : Int32} {r4 : Int32} {t6 : Int32} (h0 : r1 = gsX_X1_part_1 NF 1 p1 v f) (h1 : t3 = r1 + p2) (h2 : r4 = gsX_X1_part_1 NF 2 p1 v f) (h3 : t6 = r4 - p2) (h4 : ¬ (99 < t3)) (h5 : ¬ (t6 ≤ 99)) : gsX_X10_widen_1 NF p1 p2 v f = ((-1), v, f) := by
  subst h0 h1 h2 h3
  simp only [gsX_X10_widen_1, if_neg h4, if_neg h5]
def gsX_X10_letout_1 (NF : Nat) (p1 : Int32) (p2 : Int32) (v : Nat → Int32) (f : Nat → Nat → Int32) : Int32 × (Nat → Int32) × (Nat → Nat → Int32) :=
  if p2 < 1 then
    ((-1), v, f)
  else
    let r2 : Int32 := gsX_X1_part_1 NF 2 p1 v f
    if p2 ≤ r2 then
      match gsX_X10_widen_1 NF p1 p2 v f with
      | (r7, v9, f10) =>
        (r7, v9, f10)
    else
      ((-1), v, f)
theorem gsX_X10_letout_1_q0 {NF : Nat} {p1 : Int32} {p2 : Int32} {v : Nat → Int32} {f : Nat → Nat → Int32} (h0 : (p2 < 1)) : gsX_X10_letout_1 NF p1 p2 v f = ((-1), v, f) := by
  simp only [gsX_X10_letout_1, if_pos h0]
theorem gsX_X10_letout_1_q1 {NF : Nat} {p1 : Int32} {p2 : Int32} {v : Nat → Int32} {f : Nat → Nat → Int32} {r2 : Int32} {r7 : Int32} {v9 : Nat → Int32} {f10 : Nat → Nat → Int32} (h0 : ¬ (p2 < 1)) (h1 : r2 = gsX_X1_part_1 NF 2 p1 v f) (h2 : (p2 ≤ r2)) (h3 : gsX_X10_widen_1 NF p1 p2 v f = (r7, v9, f10)) : gsX_X10_letout_1 NF p1 p2 v f = (r7, v9, f10) := by
  subst h1
  simp only [gsX_X10_letout_1, if_neg h0, if_pos h2, h3]
theorem gsX_X10_letout_1_q2 {NF : Nat} {p1 : Int32} {p2 : Int32} {v : Nat → Int32} {f : Nat → Nat → Int32} {r2 : Int32} (h0 : ¬ (p2 < 1)) (h1 : r2 = gsX_X1_part_1 NF 2 p1 v f) (h2 : ¬ (p2 ≤ r2)) : gsX_X10_letout_1 NF p1 p2 v f = ((-1), v, f) := by
  subst h1
  simp only [gsX_X10_letout_1, if_neg h0, if_neg h2]
def gsX_X10_takein_1 (NF : Nat) (p1 : Int32) (p2 : Int32) (v : Nat → Int32) (f : Nat → Nat → Int32) : Int32 × (Nat → Int32) × (Nat → Nat → Int32) :=
  if p2 < 1 then
    ((-1), v, f)
  else
    let r2 : Int32 := gsX_X1_part_1 NF 1 p1 v f
    if p2 ≤ r2 then
      let t7 : Int32 := -p2
      match gsX_X10_widen_1 NF p1 t7 v f with
      | (r8, v10, f11) =>
        (r8, v10, f11)
    else
      ((-1), v, f)
theorem gsX_X10_takein_1_q0 {NF : Nat} {p1 : Int32} {p2 : Int32} {v : Nat → Int32} {f : Nat → Nat → Int32} (h0 : (p2 < 1)) : gsX_X10_takein_1 NF p1 p2 v f = ((-1), v, f) := by
  simp only [gsX_X10_takein_1, if_pos h0]
theorem gsX_X10_takein_1_q1 {NF : Nat} {p1 : Int32} {p2 : Int32} {v : Nat → Int32} {f : Nat → Nat → Int32} {r2 : Int32} {t7 : Int32} {r8 : Int32} {v10 : Nat → Int32} {f11 : Nat → Nat → Int32} (h0 : ¬ (p2 < 1)) (h1 : r2 = gsX_X1_part_1 NF 1 p1 v f) (h2 : (p2 ≤ r2)) (h3 : t7 = -p2) (h4 : gsX_X10_widen_1 NF p1 t7 v f = (r8, v10, f11)) : gsX_X10_takein_1 NF p1 p2 v f = (r8, v10, f11) := by
  subst h1 h3
  simp only [gsX_X10_takein_1, if_neg h0, if_pos h2, h4]
theorem gsX_X10_takein_1_q2 {NF : Nat} {p1 : Int32} {p2 : Int32} {v : Nat → Int32} {f : Nat → Nat → Int32} {r2 : Int32} (h0 : ¬ (p2 < 1)) (h1 : r2 = gsX_X1_part_1 NF 1 p1 v f) (h2 : ¬ (p2 ≤ r2)) : gsX_X10_takein_1 NF p1 p2 v f = ((-1), v, f) := by
  subst h1
  simp only [gsX_X10_takein_1, if_neg h0, if_neg h2]
def gsX_X10_hem_1 (NF : Nat) (p1 : Int32) (p2 : Int32) (v : Nat → Int32) (f : Nat → Nat → Int32) : Int32 × (Nat → Int32) × (Nat → Nat → Int32) :=
  let r1 : Int32 := gsX_X1_part_1 NF 0 p1 v f
  if p2 < 1 then
    ((-1), v, f)
  else
    if p2 ≤ r1 then
      let t7 : Int32 := r1 - p2
      match gsX_X1_setPart_1 NF 0 p1 t7 v f with
      | (v9, f10) =>
        match gsX_X5_keepAct_1 NF v9 f10 with
        | (v12, f13) =>
          (t7, v12, f13)
    else
      ((-1), v, f)
theorem gsX_X10_hem_1_q0 {NF : Nat} {p1 : Int32} {p2 : Int32} {v : Nat → Int32} {f : Nat → Nat → Int32} {r1 : Int32} (h0 : r1 = gsX_X1_part_1 NF 0 p1 v f) (h1 : (p2 < 1)) : gsX_X10_hem_1 NF p1 p2 v f = ((-1), v, f) := by
  subst h0
  simp only [gsX_X10_hem_1, if_pos h1]
theorem gsX_X10_hem_1_q1 {NF : Nat} {p1 : Int32} {p2 : Int32} {v : Nat → Int32} {f : Nat → Nat → Int32} {r1 : Int32} {t7 : Int32} {v9 : Nat → Int32} {f10 : Nat → Nat → Int32} {v12 : Nat → Int32} {f13 : Nat → Nat → Int32} (h0 : r1 = gsX_X1_part_1 NF 0 p1 v f) (h1 : ¬ (p2 < 1)) (h2 : (p2 ≤ r1)) (h3 : t7 = r1 - p2) (h4 : gsX_X1_setPart_1 NF 0 p1 t7 v f = (v9, f10)) (h5 : gsX_X5_keepAct_1 NF v9 f10 = (v12, f13)) : gsX_X10_hem_1 NF p1 p2 v f = (t7, v12, f13) := by
  subst h0 h3
  simp only [gsX_X10_hem_1, if_neg h1, if_pos h2, h4, h5]
theorem gsX_X10_hem_1_q2 {NF : Nat} {p1 : Int32} {p2 : Int32} {v : Nat → Int32} {f : Nat → Nat → Int32} {r1 : Int32} (h0 : r1 = gsX_X1_part_1 NF 0 p1 v f) (h1 : ¬ (p2 < 1)) (h2 : ¬ (p2 ≤ r1)) : gsX_X10_hem_1 NF p1 p2 v f = ((-1), v, f) := by
  subst h0
  simp only [gsX_X10_hem_1, if_neg h1, if_neg h2]
def gsX_X10_turn_1 (NF : Nat) (p1 : Int32) (v : Nat → Int32) (f : Nat → Nat → Int32) : Int32 × (Nat → Int32) × (Nat → Nat → Int32) :=
  if gsX_X7_hasCoat_1 NF p1 v f = 1 then
    let r4 : Int32 := gsX_X1_part_1 NF 4 p1 v f
    if r4 = 0 then
      let r7 : Int32 := gsX_X1_part_1 NF 3 p1 v f
      match gsX_X1_setPart_1 NF 3 p1 0 v f with
      | (v10, f11) =>
        match gsX_X1_setPart_1 NF 4 p1 1 v10 f11 with
        | (v13, f14) =>
          match gsX_X5_keepAct_1 NF v13 f14 with
          | (v16, f17) =>
            (r7, v16, f17)
    else
      ((-1), v, f)
  else
    ((-1), v, f)
theorem gsX_X10_turn_1_q0 {NF : Nat} {p1 : Int32} {v : Nat → Int32} {f : Nat → Nat → Int32} {r4 : Int32} {r7 : Int32} {v10 : Nat → Int32} {f11 : Nat → Nat → Int32} {v13 : Nat → Int32} {f14 : Nat → Nat → Int32} {v16 : Nat → Int32} {f17 : Nat → Nat → Int32} (h0 : gsX_X7_hasCoat_1 NF p1 v f = 1) (h1 : r4 = gsX_X1_part_1 NF 4 p1 v f) (h2 : (r4 = 0)) (h3 : r7 = gsX_X1_part_1 NF 3 p1 v f) (h4 : gsX_X1_setPart_1 NF 3 p1 0 v f = (v10, f11)) (h5 : gsX_X1_setPart_1 NF 4 p1 1 v10 f11 = (v13, f14)) (h6 : gsX_X5_keepAct_1 NF v13 f14 = (v16, f17)) : gsX_X10_turn_1 NF p1 v f = (r7, v16, f17) := by
  subst h1 h3
  simp only [gsX_X10_turn_1, h0, if_pos h2, h4, h5, h6, ite11, ite01, if_true, if_false]
theorem gsX_X10_turn_1_q1 {NF : Nat} {p1 : Int32} {v : Nat → Int32} {f : Nat → Nat → Int32} {r4 : Int32} (h0 : gsX_X7_hasCoat_1 NF p1 v f = 1) (h1 : r4 = gsX_X1_part_1 NF 4 p1 v f) (h2 : ¬ (r4 = 0)) : gsX_X10_turn_1 NF p1 v f = ((-1), v, f) := by
  subst h1
  simp only [gsX_X10_turn_1, h0, if_neg h2, ite11, ite01, if_true, if_false]
theorem gsX_X10_turn_1_q2 {NF : Nat} {p1 : Int32} {v : Nat → Int32} {f : Nat → Nat → Int32} (h0 : gsX_X7_hasCoat_1 NF p1 v f = 0) : gsX_X10_turn_1 NF p1 v f = ((-1), v, f) := by
  simp only [gsX_X10_turn_1, h0, ite11, ite01, if_true, if_false]
def gsX_X1_loadFrom_1 (NF : Nat) (p2 : Int32) (v : Nat → Int32) (f : Nat → Nat → Int32) : (Nat → Int32) × (Nat → Nat → Int32) :=
  if p2 < 0 then
    (v, f)
  else
    if 41 ≤ p2 then
      (v, f)
    else
      let t3 : Int32 := p2 * 44
      let f5 : Nat → Nat → Int32 := upd2 f 15 (va_cpy (f 17) (f 15) (t3).toNatClampNeg (0 : Int32).toNatClampNeg (44 : Int32).toNatClampNeg)
      (v, f5)
theorem gsX_X1_loadFrom_1_q0 {NF : Nat} {p2 : Int32} {v : Nat → Int32} {f : Nat → Nat → Int32} (h0 : (p2 < 0)) : gsX_X1_loadFrom_1 NF p2 v f = (v, f) := by
  simp only [gsX_X1_loadFrom_1, if_pos h0]
theorem gsX_X1_loadFrom_1_q1 {NF : Nat} {p2 : Int32} {v : Nat → Int32} {f : Nat → Nat → Int32} (h0 : ¬ (p2 < 0)) (h1 : (41 ≤ p2)) : gsX_X1_loadFrom_1 NF p2 v f = (v, f) := by
  simp only [gsX_X1_loadFrom_1, if_neg h0, if_pos h1]
theorem gsX_X1_loadFrom_1_q2 {NF : Nat} {p2 : Int32} {v : Nat → Int32} {f : Nat → Nat → Int32} {t3 : Int32} {f5 : Nat → Nat → Int32} (h0 : ¬ (p2 < 0)) (h1 : ¬ (41 ≤ p2)) (h2 : t3 = p2 * 44) (h3 : f5 = upd2 f 15 (va_cpy (f 17) (f 15) (t3).toNatClampNeg (0 : Int32).toNatClampNeg (44 : Int32).toNatClampNeg)) : gsX_X1_loadFrom_1 NF p2 v f = (v, f5) := by
  subst h2 h3
  simp only [gsX_X1_loadFrom_1, if_neg h0, if_neg h1]
def gsX_X5_stepBack_1 (NF : Nat) (v : Nat → Int32) (f : Nat → Nat → Int32) : Int32 × (Nat → Int32) × (Nat → Nat → Int32) :=
  if (v 22) = 0 then
    (0, v, f)
  else
    let t2 : Int32 := (v 22) - 1
    let t3 : Int32 := (v 23) + 1
    let t4 : Int32 := (v 21) + t2
    let t5 : Int32 := t4 - t4 / 41 * 41
    match gsX_X1_loadFrom_1 NF t5 (upd (upd v 22 t2) 23 t3) f with
    | (v7, f8) =>
      (1, v7, f8)
theorem gsX_X5_stepBack_1_q0 {NF : Nat} {v : Nat → Int32} {f : Nat → Nat → Int32} {t2 : Int32} {t3 : Int32} {t4 : Int32} {t5 : Int32} {v7 : Nat → Int32} {f8 : Nat → Nat → Int32} (h0 : ¬ ((v 22) = 0)) (h1 : t2 = (v 22) - 1) (h2 : t3 = (v 23) + 1) (h3 : t4 = (v 21) + t2) (h4 : t5 = t4 - t4 / 41 * 41) (h5 : gsX_X1_loadFrom_1 NF t5 (upd (upd v 22 t2) 23 t3) f = (v7, f8)) : gsX_X5_stepBack_1 NF v f = (1, v7, f8) := by
  subst h1 h2 h3 h4
  simp only [gsX_X5_stepBack_1, if_neg h0, h5]
theorem gsX_X5_stepBack_1_q1 {NF : Nat} {v : Nat → Int32} {f : Nat → Nat → Int32} (h0 : ((v 22) = 0)) : gsX_X5_stepBack_1 NF v f = (0, v, f) := by
  simp only [gsX_X5_stepBack_1, if_pos h0]
def gsX_X10_undo_1 (NF : Nat) (v : Nat → Int32) (f : Nat → Nat → Int32) : Int32 × (Nat → Int32) × (Nat → Nat → Int32) :=
  match gsX_X5_stepBack_1 NF v f with
  | (r1, v3, f4) =>
    if r1 = 1 then
      (1, v3, f4)
    else
      (0, v3, f4)
theorem gsX_X10_undo_1_q0 {NF : Nat} {v : Nat → Int32} {f : Nat → Nat → Int32} {v3 : Nat → Int32} {f4 : Nat → Nat → Int32} (h0 : gsX_X5_stepBack_1 NF v f = (1, v3, f4)) : gsX_X10_undo_1 NF v f = (1, v3, f4) := by
  simp only [gsX_X10_undo_1, h0, ite11, ite01, if_true, if_false]
theorem gsX_X10_undo_1_q1 {NF : Nat} {v : Nat → Int32} {f : Nat → Nat → Int32} {v3 : Nat → Int32} {f4 : Nat → Nat → Int32} (h0 : gsX_X5_stepBack_1 NF v f = (0, v3, f4)) : gsX_X10_undo_1 NF v f = (0, v3, f4) := by
  simp only [gsX_X10_undo_1, h0, ite11, ite01, if_true, if_false]
def gsX_X5_stepOn_1 (NF : Nat) (v : Nat → Int32) (f : Nat → Nat → Int32) : Int32 × (Nat → Int32) × (Nat → Nat → Int32) :=
  if (v 23) = 0 then
    (0, v, f)
  else
    let t2 : Int32 := (v 22) + 1
    let t3 : Int32 := (v 23) - 1
    let t4 : Int32 := (v 21) + t2
    let t5 : Int32 := t4 - t4 / 41 * 41
    match gsX_X1_loadFrom_1 NF t5 (upd (upd v 22 t2) 23 t3) f with
    | (v7, f8) =>
      (1, v7, f8)
theorem gsX_X5_stepOn_1_q0 {NF : Nat} {v : Nat → Int32} {f : Nat → Nat → Int32} {t2 : Int32} {t3 : Int32} {t4 : Int32} {t5 : Int32} {v7 : Nat → Int32} {f8 : Nat → Nat → Int32} (h0 : ¬ ((v 23) = 0)) (h1 : t2 = (v 22) + 1) (h2 : t3 = (v 23) - 1) (h3 : t4 = (v 21) + t2) (h4 : t5 = t4 - t4 / 41 * 41) (h5 : gsX_X1_loadFrom_1 NF t5 (upd (upd v 22 t2) 23 t3) f = (v7, f8)) : gsX_X5_stepOn_1 NF v f = (1, v7, f8) := by
  subst h1 h2 h3 h4
  simp only [gsX_X5_stepOn_1, if_neg h0, h5]
theorem gsX_X5_stepOn_1_q1 {NF : Nat} {v : Nat → Int32} {f : Nat → Nat → Int32} (h0 : ((v 23) = 0)) : gsX_X5_stepOn_1 NF v f = (0, v, f) := by
  simp only [gsX_X5_stepOn_1, if_pos h0]
def gsX_X10_redo_1 (NF : Nat) (v : Nat → Int32) (f : Nat → Nat → Int32) : Int32 × (Nat → Int32) × (Nat → Nat → Int32) :=
  match gsX_X5_stepOn_1 NF v f with
  | (r1, v3, f4) =>
    if r1 = 1 then
      (1, v3, f4)
    else
      (0, v3, f4)
theorem gsX_X10_redo_1_q0 {NF : Nat} {v : Nat → Int32} {f : Nat → Nat → Int32} {v3 : Nat → Int32} {f4 : Nat → Nat → Int32} (h0 : gsX_X5_stepOn_1 NF v f = (1, v3, f4)) : gsX_X10_redo_1 NF v f = (1, v3, f4) := by
  simp only [gsX_X10_redo_1, h0, ite11, ite01, if_true, if_false]
theorem gsX_X10_redo_1_q1 {NF : Nat} {v : Nat → Int32} {f : Nat → Nat → Int32} {v3 : Nat → Int32} {f4 : Nat → Nat → Int32} (h0 : gsX_X5_stepOn_1 NF v f = (0, v3, f4)) : gsX_X10_redo_1 NF v f = (0, v3, f4) := by
  simp only [gsX_X10_redo_1, h0, ite11, ite01, if_true, if_false]
def gsX_X1_saveTo_2 (NF : Nat) (p2 : Int32) (v : Nat → Int32) (f : Nat → Nat → Int32) : (Nat → Int32) × (Nat → Nat → Int32) :=
  if p2 < 0 then
    (v, f)
  else
    if 3 ≤ p2 then
      (v, f)
    else
      let t3 : Int32 := p2 * 44
      let f5 : Nat → Nat → Int32 := upd2 f 16 (va_cpy (f 15) (f 16) (0 : Int32).toNatClampNeg (t3).toNatClampNeg (44 : Int32).toNatClampNeg)
      (v, f5)
theorem gsX_X1_saveTo_2_q0 {NF : Nat} {p2 : Int32} {v : Nat → Int32} {f : Nat → Nat → Int32} (h0 : (p2 < 0)) : gsX_X1_saveTo_2 NF p2 v f = (v, f) := by
  simp only [gsX_X1_saveTo_2, if_pos h0]
theorem gsX_X1_saveTo_2_q1 {NF : Nat} {p2 : Int32} {v : Nat → Int32} {f : Nat → Nat → Int32} (h0 : ¬ (p2 < 0)) (h1 : (3 ≤ p2)) : gsX_X1_saveTo_2 NF p2 v f = (v, f) := by
  simp only [gsX_X1_saveTo_2, if_neg h0, if_pos h1]
theorem gsX_X1_saveTo_2_q2 {NF : Nat} {p2 : Int32} {v : Nat → Int32} {f : Nat → Nat → Int32} {t3 : Int32} {f5 : Nat → Nat → Int32} (h0 : ¬ (p2 < 0)) (h1 : ¬ (3 ≤ p2)) (h2 : t3 = p2 * 44) (h3 : f5 = upd2 f 16 (va_cpy (f 15) (f 16) (0 : Int32).toNatClampNeg (t3).toNatClampNeg (44 : Int32).toNatClampNeg)) : gsX_X1_saveTo_2 NF p2 v f = (v, f5) := by
  subst h2 h3
  simp only [gsX_X1_saveTo_2, if_neg h0, if_neg h1]
def gsX_X5_fillBox_1 (NF : Nat) (p1 : Int32) (v : Nat → Int32) (f : Nat → Nat → Int32) : Int32 × (Nat → Int32) × (Nat → Nat → Int32) :=
  if p1 < 0 then
    (0, v, f)
  else
    if p1 < 3 then
      match gsX_X1_saveTo_2 NF p1 v f with
      | (v4, f5) =>
        let t6 : Int32 := 1 <<< (p1 &&& 31)
        let t7 : Int32 := (v4 20) ||| t6
        (1, (upd v4 20 t7), f5)
    else
      (0, v, f)
theorem gsX_X5_fillBox_1_q0 {NF : Nat} {p1 : Int32} {v : Nat → Int32} {f : Nat → Nat → Int32} (h0 : (p1 < 0)) : gsX_X5_fillBox_1 NF p1 v f = (0, v, f) := by
  simp only [gsX_X5_fillBox_1, if_pos h0]
theorem gsX_X5_fillBox_1_q1 {NF : Nat} {p1 : Int32} {v : Nat → Int32} {f : Nat → Nat → Int32} {v4 : Nat → Int32} {f5 : Nat → Nat → Int32} {t6 : Int32} {t7 : Int32} (h0 : ¬ (p1 < 0)) (h1 : (p1 < 3)) (h2 : gsX_X1_saveTo_2 NF p1 v f = (v4, f5)) (h3 : t6 = 1 <<< (p1 &&& 31)) (h4 : t7 = (v4 20) ||| t6) : gsX_X5_fillBox_1 NF p1 v f = (1, (upd v4 20 t7), f5) := by
  subst h3 h4
  simp only [gsX_X5_fillBox_1, if_neg h0, if_pos h1, h2]
theorem gsX_X5_fillBox_1_q2 {NF : Nat} {p1 : Int32} {v : Nat → Int32} {f : Nat → Nat → Int32} (h0 : ¬ (p1 < 0)) (h1 : ¬ (p1 < 3)) : gsX_X5_fillBox_1 NF p1 v f = (0, v, f) := by
  simp only [gsX_X5_fillBox_1, if_neg h0, if_neg h1]
def gsX_X10_image_1 (NF : Nat) (p1 : Int32) (v : Nat → Int32) (f : Nat → Nat → Int32) : Int32 × (Nat → Int32) × (Nat → Nat → Int32) :=
  match gsX_X5_fillBox_1 NF p1 v f with
  | (r1, v3, f4) =>
    if r1 = 1 then
      let r6 : Int32 := gsX_X1_today_1 NF v3 f4
      (r6, v3, f4)
    else
      ((-1), v3, f4)
theorem gsX_X10_image_1_q0 {NF : Nat} {p1 : Int32} {v : Nat → Int32} {f : Nat → Nat → Int32} {v3 : Nat → Int32} {f4 : Nat → Nat → Int32} {r6 : Int32} (h0 : gsX_X5_fillBox_1 NF p1 v f = (1, v3, f4)) (h2 : r6 = gsX_X1_today_1 NF v3 f4) : gsX_X10_image_1 NF p1 v f = (r6, v3, f4) := by
  subst h2
  simp only [gsX_X10_image_1, h0, ite11, ite01, if_true, if_false]
theorem gsX_X10_image_1_q1 {NF : Nat} {p1 : Int32} {v : Nat → Int32} {f : Nat → Nat → Int32} {v3 : Nat → Int32} {f4 : Nat → Nat → Int32} (h0 : gsX_X5_fillBox_1 NF p1 v f = (0, v3, f4)) : gsX_X10_image_1 NF p1 v f = ((-1), v3, f4) := by
  simp only [gsX_X10_image_1, h0, ite11, ite01, if_true, if_false]
def gsX_X1_loadFrom_2 (NF : Nat) (p2 : Int32) (v : Nat → Int32) (f : Nat → Nat → Int32) : (Nat → Int32) × (Nat → Nat → Int32) :=
  if p2 < 0 then
    (v, f)
  else
    if 3 ≤ p2 then
      (v, f)
    else
      let t3 : Int32 := p2 * 44
      let f5 : Nat → Nat → Int32 := upd2 f 15 (va_cpy (f 16) (f 15) (t3).toNatClampNeg (0 : Int32).toNatClampNeg (44 : Int32).toNatClampNeg)
      (v, f5)
theorem gsX_X1_loadFrom_2_q0 {NF : Nat} {p2 : Int32} {v : Nat → Int32} {f : Nat → Nat → Int32} (h0 : (p2 < 0)) : gsX_X1_loadFrom_2 NF p2 v f = (v, f) := by
  simp only [gsX_X1_loadFrom_2, if_pos h0]
theorem gsX_X1_loadFrom_2_q1 {NF : Nat} {p2 : Int32} {v : Nat → Int32} {f : Nat → Nat → Int32} (h0 : ¬ (p2 < 0)) (h1 : (3 ≤ p2)) : gsX_X1_loadFrom_2 NF p2 v f = (v, f) := by
  simp only [gsX_X1_loadFrom_2, if_neg h0, if_pos h1]
theorem gsX_X1_loadFrom_2_q2 {NF : Nat} {p2 : Int32} {v : Nat → Int32} {f : Nat → Nat → Int32} {t3 : Int32} {f5 : Nat → Nat → Int32} (h0 : ¬ (p2 < 0)) (h1 : ¬ (3 ≤ p2)) (h2 : t3 = p2 * 44) (h3 : f5 = upd2 f 15 (va_cpy (f 16) (f 15) (t3).toNatClampNeg (0 : Int32).toNatClampNeg (44 : Int32).toNatClampNeg)) : gsX_X1_loadFrom_2 NF p2 v f = (v, f5) := by
  subst h2 h3
  simp only [gsX_X1_loadFrom_2, if_neg h0, if_neg h1]
def gsX_X5_takeBox_1 (NF : Nat) (p1 : Int32) (v : Nat → Int32) (f : Nat → Nat → Int32) : Int32 × (Nat → Int32) × (Nat → Nat → Int32) :=
  if p1 < 0 then
    (0, v, f)
  else
    if 3 ≤ p1 then
      (0, v, f)
    else
      let t3 : Int32 := (v 20) >>> (p1 &&& 31)
      let t4 : Int32 := t3 &&& 1
      if t4 = 0 then
        (0, v, f)
      else
        match gsX_X1_loadFrom_2 NF p1 v f with
        | (v7, f8) =>
          match gsX_X5_forgetActs_1 NF v7 f8 with
          | (v10, f11) =>
            (1, v10, f11)
theorem gsX_X5_takeBox_1_q0 {NF : Nat} {p1 : Int32} {v : Nat → Int32} {f : Nat → Nat → Int32} (h0 : (p1 < 0)) : gsX_X5_takeBox_1 NF p1 v f = (0, v, f) := by
  simp only [gsX_X5_takeBox_1, if_pos h0]
theorem gsX_X5_takeBox_1_q1 {NF : Nat} {p1 : Int32} {v : Nat → Int32} {f : Nat → Nat → Int32} (h0 : ¬ (p1 < 0)) (h1 : (3 ≤ p1)) : gsX_X5_takeBox_1 NF p1 v f = (0, v, f) := by
  simp only [gsX_X5_takeBox_1, if_neg h0, if_pos h1]
theorem gsX_X5_takeBox_1_q2 {NF : Nat} {p1 : Int32} {v : Nat → Int32} {f : Nat → Nat → Int32} {t3 : Int32} {t4 : Int32} {v7 : Nat → Int32} {f8 : Nat → Nat → Int32} {v10 : Nat → Int32} {f11 : Nat → Nat → Int32} (h0 : ¬ (p1 < 0)) (h1 : ¬ (3 ≤ p1)) (h2 : t3 = (v 20) >>> (p1 &&& 31)) (h3 : t4 = t3 &&& 1) (h4 : ¬ (t4 = 0)) (h5 : gsX_X1_loadFrom_2 NF p1 v f = (v7, f8)) (h6 : gsX_X5_forgetActs_1 NF v7 f8 = (v10, f11)) : gsX_X5_takeBox_1 NF p1 v f = (1, v10, f11) := by
  subst h2 h3
  simp only [gsX_X5_takeBox_1, if_neg h0, if_neg h1, if_neg h4, h5, h6]
theorem gsX_X5_takeBox_1_q3 {NF : Nat} {p1 : Int32} {v : Nat → Int32} {f : Nat → Nat → Int32} {t3 : Int32} {t4 : Int32} (h0 : ¬ (p1 < 0)) (h1 : ¬ (3 ≤ p1)) (h2 : t3 = (v 20) >>> (p1 &&& 31)) (h3 : t4 = t3 &&& 1) (h4 : (t4 = 0)) : gsX_X5_takeBox_1 NF p1 v f = (0, v, f) := by
  subst h2 h3
  simp only [gsX_X5_takeBox_1, if_neg h0, if_neg h1, if_pos h4]
def gsX_X10_back_1 (NF : Nat) (p1 : Int32) (v : Nat → Int32) (f : Nat → Nat → Int32) : Int32 × (Nat → Int32) × (Nat → Nat → Int32) :=
  match gsX_X5_takeBox_1 NF p1 v f with
  | (r1, v3, f4) =>
    if r1 = 1 then
      let r6 : Int32 := gsX_X1_today_1 NF v3 f4
      (r6, v3, f4)
    else
      ((-1), v3, f4)
theorem gsX_X10_back_1_q0 {NF : Nat} {p1 : Int32} {v : Nat → Int32} {f : Nat → Nat → Int32} {v3 : Nat → Int32} {f4 : Nat → Nat → Int32} {r6 : Int32} (h0 : gsX_X5_takeBox_1 NF p1 v f = (1, v3, f4)) (h2 : r6 = gsX_X1_today_1 NF v3 f4) : gsX_X10_back_1 NF p1 v f = (r6, v3, f4) := by
  subst h2
  simp only [gsX_X10_back_1, h0, ite11, ite01, if_true, if_false]
theorem gsX_X10_back_1_q1 {NF : Nat} {p1 : Int32} {v : Nat → Int32} {f : Nat → Nat → Int32} {v3 : Nat → Int32} {f4 : Nat → Nat → Int32} (h0 : gsX_X5_takeBox_1 NF p1 v f = (0, v3, f4)) : gsX_X10_back_1 NF p1 v f = ((-1), v3, f4) := by
  simp only [gsX_X10_back_1, h0, ite11, ite01, if_true, if_false]
def gsY_X11_four_1_L1 (NF : Nat) (p1 : Int32) : Nat → (Int32) → (Nat → Int32) → (Nat → Nat → Int32) → (Int64) → (Nat → Int64) → (Nat → Int32) × (Nat → Nat → Int32) × (Int64) × (Nat → Int64)
  | 0, _, _, _, _, _ => ((fun _ => 0), (fun _ _ => 0), 0, (fun _ => 0))
  | n1 + 1, l2_1, v1, f1, w1, g1 =>
    if l2_1 < 0 then
      (v1, f1, w1, g1)
    else
      let t3 : Int32 := p1 >>> (l2_1 &&& 31)
      let t4 : Int32 := t3 &&& 255
      let f5 : Nat → Nat → Int32 := upd2 f1 0 (upd (f1 0) (v1 0).toNatClampNeg t4)
      let t6 : Int32 := (v1 0) + 1
      let t8 : Int32 := l2_1 + (-8)
      gsY_X11_four_1_L1 NF p1 n1 t8 (upd v1 0 t6) f5 w1 g1
def gsY_X11_four_1 (NF : Nat) (p1 : Int32) (v : Nat → Int32) (f : Nat → Nat → Int32) (w : Int64) (g : Nat → Int64) : (Nat → Int32) × (Nat → Nat → Int32) × (Int64) × (Nat → Int64) :=
  gsY_X11_four_1_L1 NF p1 (4294967296 + NF) 24 v f w g
theorem gsY_X11_four_1_q2 {NF : Nat} {p1 : Int32} {v : Nat → Int32} {f : Nat → Nat → Int32} {w : Int64} {g : Nat → Int64}  : gsY_X11_four_1 NF p1 v f w g = gsY_X11_four_1_L1 NF p1 (4294967296 + NF) 24 v f w g := by
  simp only [gsY_X11_four_1]
theorem gsY_X11_four_1_q0 {NF : Nat} {p1 : Int32} {n1 : Nat} {l2_1 : Int32} {v1 : Nat → Int32} {f1 : Nat → Nat → Int32} {w1 : Int64} {g1 : Nat → Int64} (h0 : (l2_1 < 0)) : gsY_X11_four_1_L1 NF p1 (n1 + 1) l2_1 v1 f1 w1 g1 = (v1, f1, w1, g1) := by
  simp only [gsY_X11_four_1_L1, if_pos h0]
theorem gsY_X11_four_1_q1 {NF : Nat} {p1 : Int32} {n1 : Nat} {l2_1 : Int32} {v1 : Nat → Int32} {f1 : Nat → Nat → Int32} {w1 : Int64} {g1 : Nat → Int64} {t3 : Int32} {t4 : Int32} {f5 : Nat → Nat → Int32} {t6 : Int32} {t8 : Int32} (h0 : ¬ (l2_1 < 0)) (h1 : t3 = p1 >>> (l2_1 &&& 31)) (h2 : t4 = t3 &&& 255) (h3 : f5 = upd2 f1 0 (upd (f1 0) (v1 0).toNatClampNeg t4)) (h4 : t6 = (v1 0) + 1) (h5 : t8 = l2_1 + (-8)) : gsY_X11_four_1_L1 NF p1 (n1 + 1) l2_1 v1 f1 w1 g1 = gsY_X11_four_1_L1 NF p1 n1 t8 (upd v1 0 t6) f5 w1 g1 := by
  subst h1 h2 h3 h4 h5
  simp only [gsY_X11_four_1_L1, if_neg h0]
def gsY_X11_feed_1 (NF : Nat) (p1 : Int32) (p2 : Int32) (p3 : Int32) (p4 : Int32) (p5 : Int32) (v : Nat → Int32) (f : Nat → Nat → Int32) (w : Int64) (g : Nat → Int64) : Int32 × (Nat → Int32) × (Nat → Nat → Int32) × (Int64) × (Nat → Int64) :=
  let t1 : Int32 := (v 0) + 20
  if t1 ≤ 1600 then
    match gsY_X11_four_1 NF p1 v f w g with
    | (v5, f6, w7, g8) =>
      match gsY_X11_four_1 NF p2 v5 f6 w7 g8 with
      | (v11, f12, w13, g14) =>
        match gsY_X11_four_1 NF p3 v11 f12 w13 g14 with
        | (v17, f18, w19, g20) =>
          match gsY_X11_four_1 NF p4 v17 f18 w19 g20 with
          | (v23, f24, w25, g26) =>
            match gsY_X11_four_1 NF p5 v23 f24 w25 g26 with
            | (v29, f30, w31, g32) =>
              ((v29 0), v29, f30, w31, g32)
  else
    ((-1), v, f, w, g)
theorem gsY_X11_feed_1_q0 {NF : Nat} {p1 : Int32} {p2 : Int32} {p3 : Int32} {p4 : Int32} {p5 : Int32} {v : Nat → Int32} {f : Nat → Nat → Int32} {w : Int64} {g : Nat → Int64} {t1 : Int32} {v5 : Nat → Int32} {f6 : Nat → Nat → Int32} {w7 : Int64} {g8 : Nat → Int64} {v11 : Nat → Int32} {f12 : Nat → Nat → Int32} {w13 : Int64} {g14 : Nat → Int64} {v17 : Nat → Int32} {f18 : Nat → Nat → Int32} {w19 : Int64} {g20 : Nat → Int64} {v23 : Nat → Int32} {f24 : Nat → Nat → Int32} {w25 : Int64} {g26 : Nat → Int64} {v29 : Nat → Int32} {f30 : Nat → Nat → Int32} {w31 : Int64} {g32 : Nat → Int64} (h0 : t1 = (v 0) + 20) (h1 : (t1 ≤ 1600)) (h2 : gsY_X11_four_1 NF p1 v f w g = (v5, f6, w7, g8)) (h3 : gsY_X11_four_1 NF p2 v5 f6 w7 g8 = (v11, f12, w13, g14)) (h4 : gsY_X11_four_1 NF p3 v11 f12 w13 g14 = (v17, f18, w19, g20)) (h5 : gsY_X11_four_1 NF p4 v17 f18 w19 g20 = (v23, f24, w25, g26)) (h6 : gsY_X11_four_1 NF p5 v23 f24 w25 g26 = (v29, f30, w31, g32)) : gsY_X11_feed_1 NF p1 p2 p3 p4 p5 v f w g = ((v29 0), v29, f30, w31, g32) := by
  subst h0
  simp only [gsY_X11_feed_1, if_pos h1, h2, h3, h4, h5, h6]
theorem gsY_X11_feed_1_q1 {NF : Nat} {p1 : Int32} {p2 : Int32} {p3 : Int32} {p4 : Int32} {p5 : Int32} {v : Nat → Int32} {f : Nat → Nat → Int32} {w : Int64} {g : Nat → Int64} {t1 : Int32} (h0 : t1 = (v 0) + 20) (h1 : ¬ (t1 ≤ 1600)) : gsY_X11_feed_1 NF p1 p2 p3 p4 p5 v f w g = ((-1), v, f, w, g) := by
  subst h0
  simp only [gsY_X11_feed_1, if_neg h1]
def gsY_X11_end_1 (NF : Nat) (p1 : Int32) (v : Nat → Int32) (f : Nat → Nat → Int32) (w : Int64) (g : Nat → Int64) : Int32 × (Nat → Int32) × (Nat → Nat → Int32) × (Int64) × (Nat → Int64) :=
  if p1 < 0 then
    ((-1), v, f, w, g)
  else
    if p1 ≤ (v 0) then
      (p1, (upd v 0 p1), f, w, g)
    else
      ((-1), v, f, w, g)
theorem gsY_X11_end_1_q0 {NF : Nat} {p1 : Int32} {v : Nat → Int32} {f : Nat → Nat → Int32} {w : Int64} {g : Nat → Int64} (h0 : (p1 < 0)) : gsY_X11_end_1 NF p1 v f w g = ((-1), v, f, w, g) := by
  simp only [gsY_X11_end_1, if_pos h0]
theorem gsY_X11_end_1_q1 {NF : Nat} {p1 : Int32} {v : Nat → Int32} {f : Nat → Nat → Int32} {w : Int64} {g : Nat → Int64} (h0 : ¬ (p1 < 0)) (h1 : (p1 ≤ (v 0))) : gsY_X11_end_1 NF p1 v f w g = (p1, (upd v 0 p1), f, w, g) := by
  simp only [gsY_X11_end_1, if_neg h0, if_pos h1]
theorem gsY_X11_end_1_q2 {NF : Nat} {p1 : Int32} {v : Nat → Int32} {f : Nat → Nat → Int32} {w : Int64} {g : Nat → Int64} (h0 : ¬ (p1 < 0)) (h1 : ¬ (p1 ≤ (v 0))) : gsY_X11_end_1 NF p1 v f w g = ((-1), v, f, w, g) := by
  simp only [gsY_X11_end_1, if_neg h0, if_neg h1]
def gsY_X11_fault_1 (NF : Nat) (p1 : Int32) (v : Nat → Int32) (f : Nat → Nat → Int32) (w : Int64) (g : Nat → Int64) : Int32 :=
  if p1 = 0 then
    (v 1)
  else
    if p1 = 1 then
      (v 2)
    else
      (-1)
theorem gsY_X11_fault_1_q0 {NF : Nat} {p1 : Int32} {v : Nat → Int32} {f : Nat → Nat → Int32} {w : Int64} {g : Nat → Int64} (h0 : ¬ (p1 = 0)) (h1 : ¬ (p1 = 1)) : gsY_X11_fault_1 NF p1 v f w g = (-1) := by
  simp only [gsY_X11_fault_1, if_neg h0, if_neg h1]
theorem gsY_X11_fault_1_q1 {NF : Nat} {p1 : Int32} {v : Nat → Int32} {f : Nat → Nat → Int32} {w : Int64} {g : Nat → Int64} (h0 : ¬ (p1 = 0)) (h1 : (p1 = 1)) : gsY_X11_fault_1 NF p1 v f w g = (v 2) := by
  simp only [gsY_X11_fault_1, if_neg h0, if_pos h1]
theorem gsY_X11_fault_1_q2 {NF : Nat} {p1 : Int32} {v : Nat → Int32} {f : Nat → Nat → Int32} {w : Int64} {g : Nat → Int64} (h0 : (p1 = 0)) : gsY_X11_fault_1 NF p1 v f w g = (v 1) := by
  simp only [gsY_X11_fault_1, if_pos h0]
def gsY_X11_here_1 (NF : Nat) (p1 : Int32) (v : Nat → Int32) (f : Nat → Nat → Int32) (w : Int64) (g : Nat → Int64) : Int32 :=
  let t1 : Int32 := (v 3) + p1
  if (v 4) ≤ t1 then
    (-1)
  else
    let t9 : Int32 := f 0 (t1).toNatClampNeg
    t9
theorem gsY_X11_here_1_q0 {NF : Nat} {p1 : Int32} {v : Nat → Int32} {f : Nat → Nat → Int32} {w : Int64} {g : Nat → Int64} {t1 : Int32} (h0 : t1 = (v 3) + p1) (h1 : ((v 4) ≤ t1)) : gsY_X11_here_1 NF p1 v f w g = (-1) := by
  subst h0
  simp only [gsY_X11_here_1, if_pos h1]
theorem gsY_X11_here_1_q1 {NF : Nat} {p1 : Int32} {v : Nat → Int32} {f : Nat → Nat → Int32} {w : Int64} {g : Nat → Int64} {t1 : Int32} {t9 : Int32} (h0 : t1 = (v 3) + p1) (h1 : ¬ ((v 4) ≤ t1)) (h2 : t9 = f 0 (t1).toNatClampNeg) : gsY_X11_here_1 NF p1 v f w g = t9 := by
  subst h0 h2
  simp only [gsY_X11_here_1, if_neg h1]
def gsY_X11_isLetter_1 (NF : Nat) (p0 : Int32) (v : Nat → Int32) (f : Nat → Nat → Int32) (w : Int64) (g : Nat → Int64) : Int32 :=
  if p0 < 97 then
    0
  else
    if 122 < p0 then
      0
    else
      1
theorem gsY_X11_isLetter_1_q0 {NF : Nat} {p0 : Int32} {v : Nat → Int32} {f : Nat → Nat → Int32} {w : Int64} {g : Nat → Int64} (h0 : (p0 < 97)) : gsY_X11_isLetter_1 NF p0 v f w g = 0 := by
  simp only [gsY_X11_isLetter_1, if_pos h0]
theorem gsY_X11_isLetter_1_q1 {NF : Nat} {p0 : Int32} {v : Nat → Int32} {f : Nat → Nat → Int32} {w : Int64} {g : Nat → Int64} (h0 : ¬ (p0 < 97)) (h1 : (122 < p0)) : gsY_X11_isLetter_1 NF p0 v f w g = 0 := by
  simp only [gsY_X11_isLetter_1, if_neg h0, if_pos h1]
theorem gsY_X11_isLetter_1_q2 {NF : Nat} {p0 : Int32} {v : Nat → Int32} {f : Nat → Nat → Int32} {w : Int64} {g : Nat → Int64} (h0 : ¬ (p0 < 97)) (h1 : ¬ (122 < p0)) : gsY_X11_isLetter_1 NF p0 v f w g = 1 := by
  simp only [gsY_X11_isLetter_1, if_neg h0, if_neg h1]
def gsY_X11_isDigit_1 (NF : Nat) (p0 : Int32) (v : Nat → Int32) (f : Nat → Nat → Int32) (w : Int64) (g : Nat → Int64) : Int32 :=
  if p0 < 48 then
    0
  else
    if 57 < p0 then
      0
    else
      1
theorem gsY_X11_isDigit_1_q0 {NF : Nat} {p0 : Int32} {v : Nat → Int32} {f : Nat → Nat → Int32} {w : Int64} {g : Nat → Int64} (h0 : (p0 < 48)) : gsY_X11_isDigit_1 NF p0 v f w g = 0 := by
  simp only [gsY_X11_isDigit_1, if_pos h0]
theorem gsY_X11_isDigit_1_q1 {NF : Nat} {p0 : Int32} {v : Nat → Int32} {f : Nat → Nat → Int32} {w : Int64} {g : Nat → Int64} (h0 : ¬ (p0 < 48)) (h1 : (57 < p0)) : gsY_X11_isDigit_1 NF p0 v f w g = 0 := by
  simp only [gsY_X11_isDigit_1, if_neg h0, if_pos h1]
theorem gsY_X11_isDigit_1_q2 {NF : Nat} {p0 : Int32} {v : Nat → Int32} {f : Nat → Nat → Int32} {w : Int64} {g : Nat → Int64} (h0 : ¬ (p0 < 48)) (h1 : ¬ (57 < p0)) : gsY_X11_isDigit_1 NF p0 v f w g = 1 := by
  simp only [gsY_X11_isDigit_1, if_neg h0, if_neg h1]
def gsY_X11_isSign_1 (NF : Nat) (p0 : Int32) (v : Nat → Int32) (f : Nat → Nat → Int32) (w : Int64) (g : Nat → Int64) : Int32 :=
  if p0 = 59 then
    1
  else
    if p0 = 40 then
      1
    else
      if p0 = 41 then
        1
      else
        if p0 = 60 then
          1
        else
          if p0 = 62 then
            1
          else
            if p0 = 61 then
              1
            else
              if p0 = 43 then
                1
              else
                if p0 = 45 then
                  1
                else
                  if p0 = 42 then
                    1
                  else
                    if p0 = 47 then
                      1
                    else
                      if p0 = 37 then
                        1
                      else
                        0
theorem gsY_X11_isSign_1_q0 {NF : Nat} {p0 : Int32} {v : Nat → Int32} {f : Nat → Nat → Int32} {w : Int64} {g : Nat → Int64} (h0 : (p0 = 59)) : gsY_X11_isSign_1 NF p0 v f w g = 1 := by
  simp only [gsY_X11_isSign_1, if_pos h0]
theorem gsY_X11_isSign_1_q1 {NF : Nat} {p0 : Int32} {v : Nat → Int32} {f : Nat → Nat → Int32} {w : Int64} {g : Nat → Int64} (h0 : ¬ (p0 = 59)) (h1 : (p0 = 40)) : gsY_X11_isSign_1 NF p0 v f w g = 1 := by
  simp only [gsY_X11_isSign_1, if_neg h0, if_pos h1]
theorem gsY_X11_isSign_1_q2 {NF : Nat} {p0 : Int32} {v : Nat → Int32} {f : Nat → Nat → Int32} {w : Int64} {g : Nat → Int64} (h0 : ¬ (p0 = 59)) (h1 : ¬ (p0 = 40)) (h2 : (p0 = 41)) : gsY_X11_isSign_1 NF p0 v f w g = 1 := by
  simp only [gsY_X11_isSign_1, if_neg h0, if_neg h1, if_pos h2]
theorem gsY_X11_isSign_1_q3 {NF : Nat} {p0 : Int32} {v : Nat → Int32} {f : Nat → Nat → Int32} {w : Int64} {g : Nat → Int64} (h0 : ¬ (p0 = 59)) (h1 : ¬ (p0 = 40)) (h2 : ¬ (p0 = 41)) (h3 : (p0 = 60)) : gsY_X11_isSign_1 NF p0 v f w g = 1 := by
  simp only [gsY_X11_isSign_1, if_neg h0, if_neg h1, if_neg h2, if_pos h3]
theorem gsY_X11_isSign_1_q4 {NF : Nat} {p0 : Int32} {v : Nat → Int32} {f : Nat → Nat → Int32} {w : Int64} {g : Nat → Int64} (h0 : ¬ (p0 = 59)) (h1 : ¬ (p0 = 40)) (h2 : ¬ (p0 = 41)) (h3 : ¬ (p0 = 60)) (h4 : (p0 = 62)) : gsY_X11_isSign_1 NF p0 v f w g = 1 := by
  simp only [gsY_X11_isSign_1, if_neg h0, if_neg h1, if_neg h2, if_neg h3, if_pos h4]
theorem gsY_X11_isSign_1_q5 {NF : Nat} {p0 : Int32} {v : Nat → Int32} {f : Nat → Nat → Int32} {w : Int64} {g : Nat → Int64} (h0 : ¬ (p0 = 59)) (h1 : ¬ (p0 = 40)) (h2 : ¬ (p0 = 41)) (h3 : ¬ (p0 = 60)) (h4 : ¬ (p0 = 62)) (h5 : (p0 = 61)) : gsY_X11_isSign_1 NF p0 v f w g = 1 := by
  simp only [gsY_X11_isSign_1, if_neg h0, if_neg h1, if_neg h2, if_neg h3, if_neg h4, if_pos h5]
theorem gsY_X11_isSign_1_q6 {NF : Nat} {p0 : Int32} {v : Nat → Int32} {f : Nat → Nat → Int32} {w : Int64} {g : Nat → Int64} (h0 : ¬ (p0 = 59)) (h1 : ¬ (p0 = 40)) (h2 : ¬ (p0 = 41)) (h3 : ¬ (p0 = 60)) (h4 : ¬ (p0 = 62)) (h5 : ¬ (p0 = 61)) (h6 : (p0 = 43)) : gsY_X11_isSign_1 NF p0 v f w g = 1 := by
  simp only [gsY_X11_isSign_1, if_neg h0, if_neg h1, if_neg h2, if_neg h3, if_neg h4, if_neg h5, if_pos h6]
theorem gsY_X11_isSign_1_q7 {NF : Nat} {p0 : Int32} {v : Nat → Int32} {f : Nat → Nat → Int32} {w : Int64} {g : Nat → Int64} (h0 : ¬ (p0 = 59)) (h1 : ¬ (p0 = 40)) (h2 : ¬ (p0 = 41)) (h3 : ¬ (p0 = 60)) (h4 : ¬ (p0 = 62)) (h5 : ¬ (p0 = 61)) (h6 : ¬ (p0 = 43)) (h7 : (p0 = 45)) : gsY_X11_isSign_1 NF p0 v f w g = 1 := by
  simp only [gsY_X11_isSign_1, if_neg h0, if_neg h1, if_neg h2, if_neg h3, if_neg h4, if_neg h5, if_neg h6, if_pos h7]
theorem gsY_X11_isSign_1_q8 {NF : Nat} {p0 : Int32} {v : Nat → Int32} {f : Nat → Nat → Int32} {w : Int64} {g : Nat → Int64} (h0 : ¬ (p0 = 59)) (h1 : ¬ (p0 = 40)) (h2 : ¬ (p0 = 41)) (h3 : ¬ (p0 = 60)) (h4 : ¬ (p0 = 62)) (h5 : ¬ (p0 = 61)) (h6 : ¬ (p0 = 43)) (h7 : ¬ (p0 = 45)) (h8 : (p0 = 42)) : gsY_X11_isSign_1 NF p0 v f w g = 1 := by
  simp only [gsY_X11_isSign_1, if_neg h0, if_neg h1, if_neg h2, if_neg h3, if_neg h4, if_neg h5, if_neg h6, if_neg h7, if_pos h8]
theorem gsY_X11_isSign_1_q9 {NF : Nat} {p0 : Int32} {v : Nat → Int32} {f : Nat → Nat → Int32} {w : Int64} {g : Nat → Int64} (h0 : ¬ (p0 = 59)) (h1 : ¬ (p0 = 40)) (h2 : ¬ (p0 = 41)) (h3 : ¬ (p0 = 60)) (h4 : ¬ (p0 = 62)) (h5 : ¬ (p0 = 61)) (h6 : ¬ (p0 = 43)) (h7 : ¬ (p0 = 45)) (h8 : ¬ (p0 = 42)) (h9 : (p0 = 47)) : gsY_X11_isSign_1 NF p0 v f w g = 1 := by
  simp only [gsY_X11_isSign_1, if_neg h0, if_neg h1, if_neg h2, if_neg h3, if_neg h4, if_neg h5, if_neg h6, if_neg h7, if_neg h8, if_pos h9]
theorem gsY_X11_isSign_1_q10 {NF : Nat} {p0 : Int32} {v : Nat → Int32} {f : Nat → Nat → Int32} {w : Int64} {g : Nat → Int64} (h0 : ¬ (p0 = 59)) (h1 : ¬ (p0 = 40)) (h2 : ¬ (p0 = 41)) (h3 : ¬ (p0 = 60)) (h4 : ¬ (p0 = 62)) (h5 : ¬ (p0 = 61)) (h6 : ¬ (p0 = 43)) (h7 : ¬ (p0 = 45)) (h8 : ¬ (p0 = 42)) (h9 : ¬ (p0 = 47)) (h10 : ¬ (p0 = 37)) : gsY_X11_isSign_1 NF p0 v f w g = 0 := by
  simp only [gsY_X11_isSign_1, if_neg h0, if_neg h1, if_neg h2, if_neg h3, if_neg h4, if_neg h5, if_neg h6, if_neg h7, if_neg h8, if_neg h9, if_neg h10]
theorem gsY_X11_isSign_1_q11 {NF : Nat} {p0 : Int32} {v : Nat → Int32} {f : Nat → Nat → Int32} {w : Int64} {g : Nat → Int64} (h0 : ¬ (p0 = 59)) (h1 : ¬ (p0 = 40)) (h2 : ¬ (p0 = 41)) (h3 : ¬ (p0 = 60)) (h4 : ¬ (p0 = 62)) (h5 : ¬ (p0 = 61)) (h6 : ¬ (p0 = 43)) (h7 : ¬ (p0 = 45)) (h8 : ¬ (p0 = 42)) (h9 : ¬ (p0 = 47)) (h10 : (p0 = 37)) : gsY_X11_isSign_1 NF p0 v f w g = 1 := by
  simp only [gsY_X11_isSign_1, if_neg h0, if_neg h1, if_neg h2, if_neg h3, if_neg h4, if_neg h5, if_neg h6, if_neg h7, if_neg h8, if_neg h9, if_pos h10]
def gsY_X11_token_1_L20 (NF : Nat) (v1 : Nat → Int32) : Nat → (Int32) → (Nat → Int32) → (Nat → Nat → Int32) → (Int64) → (Nat → Int64) → (Nat → Int32) × (Nat → Nat → Int32) × (Int64) × (Nat → Int64)
  | 0, _, _, _, _, _ => ((fun _ => 0), (fun _ _ => 0), 0, (fun _ => 0))
  | n20 + 1, l2_20, v20, f20, w20, g20 =>
    let r21 : Int32 := gsY_X11_here_1 NF l2_20 v20 f20 w20 g20
    if gsY_X11_isLetter_1 NF r21 v20 f20 w20 g20 = 1 then
      if 8 ≤ l2_20 then
        let t28 : Int32 := l2_20 + 1
        gsY_X11_token_1_L20 NF v1 n20 t28 v20 f20 w20 g20
      else
        let j31 : Int64 := w20 <<< ((8 : Int32).toInt64 &&& 63)
        let r32 : Int32 := gsY_X11_here_1 NF l2_20 v20 f20 w20 g20
        let j35 : Int64 := r32.toInt64
        let j36 : Int64 := j31 ||| j35
        let t37 : Int32 := l2_20 + 1
        gsY_X11_token_1_L20 NF v1 n20 t37 v20 f20 j36 g20
    else
      if l2_20 ≤ 8 then
        let t41 : Int32 := (v1 3) + l2_20
        ((upd (upd v20 5 1) 3 t41), f20, w20, g20)
      else
        ((upd v20 5 3), f20, w20, g20)
def gsY_X11_token_1_L47 (NF : Nat) (v1 : Nat → Int32) : Nat → (Int32) → (Nat → Int32) → (Nat → Nat → Int32) → (Int64) → (Nat → Int64) → (Nat → Int32) × (Nat → Nat → Int32) × (Int64) × (Nat → Int64)
  | 0, _, _, _, _, _ => ((fun _ => 0), (fun _ _ => 0), 0, (fun _ => 0))
  | n47 + 1, l2_47, v47, f47, w47, g47 =>
    let r48 : Int32 := gsY_X11_here_1 NF l2_47 v47 f47 w47 g47
    if gsY_X11_isDigit_1 NF r48 v47 f47 w47 g47 = 1 then
      if 4 ≤ l2_47 then
        let t55 : Int32 := l2_47 + 1
        gsY_X11_token_1_L47 NF v1 n47 t55 v47 f47 w47 g47
      else
        let t58 : Int32 := 10 * (v47 7)
        let r59 : Int32 := gsY_X11_here_1 NF l2_47 v47 f47 w47 g47
        let t62 : Int32 := t58 + r59
        let t63 : Int32 := t62 - 48
        let t64 : Int32 := l2_47 + 1
        gsY_X11_token_1_L47 NF v1 n47 t64 (upd v47 7 t63) f47 w47 g47
    else
      if 4 < l2_47 then
        ((upd v47 5 3), f47, w47, g47)
      else
        let r68 : Int32 := gsY_X11_here_1 NF l2_47 v47 f47 w47 g47
        if gsY_X11_isLetter_1 NF r68 v47 f47 w47 g47 = 1 then
          ((upd v47 5 3), f47, w47, g47)
        else
          let t74 : Int32 := (v1 3) + l2_47
          ((upd (upd v47 5 2) 3 t74), f47, w47, g47)
def gsY_X11_token_1_L1 (NF : Nat) : Nat → (Nat → Int32) → (Nat → Nat → Int32) → (Int64) → (Nat → Int64) → (Nat → Int32) × (Nat → Nat → Int32) × (Int64) × (Nat → Int64)
  | 0, _, _, _, _ => ((fun _ => 0), (fun _ _ => 0), 0, (fun _ => 0))
  | n1 + 1, v1, f1, w1, g1 =>
    let r3 : Int32 := gsY_X11_here_1 NF 0 v1 f1 w1 g1
    if r3 = 32 then
      let t7 : Int32 := (v1 3) + 1
      gsY_X11_token_1_L1 NF n1 (upd v1 3 t7) f1 w1 g1
    else
      let r9 : Int32 := gsY_X11_here_1 NF 0 v1 f1 w1 g1
      if r9 = 10 then
        let t85 : Int32 := (v1 3) + 1
        gsY_X11_token_1_L1 NF n1 (upd v1 3 t85) f1 w1 g1
      else
        let r13 : Int32 := gsY_X11_here_1 NF 0 (upd v1 6 (v1 3)) f1 w1 g1
        if 0 ≤ r13 then
          if gsY_X11_isLetter_1 NF r13 (upd (upd v1 6 (v1 3)) 7 0) f1 0 g1 = 1 then
            gsY_X11_token_1_L20 NF v1 (4294967296 + NF) 0 (upd (upd v1 6 (v1 3)) 7 0) f1 0 g1
          else
            if gsY_X11_isDigit_1 NF r13 (upd (upd v1 6 (v1 3)) 7 0) f1 0 g1 = 1 then
              gsY_X11_token_1_L47 NF v1 (4294967296 + NF) 0 (upd (upd v1 6 (v1 3)) 7 0) f1 0 g1
            else
              if gsY_X11_isSign_1 NF r13 (upd (upd v1 6 (v1 3)) 7 0) f1 0 g1 = 1 then
                if r13 = 3 then
                  ((upd (upd (upd v1 6 (v1 3)) 7 0) 5 r13), f1, 0, g1)
                else
                  let t81 : Int32 := (v1 3) + 1
                  ((upd (upd (upd (upd v1 6 (v1 3)) 7 0) 5 r13) 3 t81), f1, 0, g1)
              else
                ((upd (upd (upd v1 6 (v1 3)) 7 0) 5 3), f1, 0, g1)
        else
          let t83 : Int32 := (v1 3) + 0
          ((upd (upd (upd (upd v1 6 (v1 3)) 7 0) 5 0) 3 t83), f1, 0, g1)
def gsY_X11_token_1 (NF : Nat) (v : Nat → Int32) (f : Nat → Nat → Int32) (w : Int64) (g : Nat → Int64) : (Nat → Int32) × (Nat → Nat → Int32) × (Int64) × (Nat → Int64) :=
  gsY_X11_token_1_L1 NF (4294967296 + NF) v f w g
theorem gsY_X11_token_1_q17 {NF : Nat} {v : Nat → Int32} {f : Nat → Nat → Int32} {w : Int64} {g : Nat → Int64}  : gsY_X11_token_1 NF v f w g = gsY_X11_token_1_L1 NF (4294967296 + NF) v f w g := by
  simp only [gsY_X11_token_1]
theorem gsY_X11_token_1_q0 {NF : Nat} {n1 : Nat} {v1 : Nat → Int32} {f1 : Nat → Nat → Int32} {w1 : Int64} {g1 : Nat → Int64} {r3 : Int32} {t7 : Int32} (h0 : r3 = gsY_X11_here_1 NF 0 v1 f1 w1 g1) (h1 : (r3 = 32)) (h2 : t7 = (v1 3) + 1) : gsY_X11_token_1_L1 NF (n1 + 1) v1 f1 w1 g1 = gsY_X11_token_1_L1 NF n1 (upd v1 3 t7) f1 w1 g1 := by
  subst h0 h2
  simp only [gsY_X11_token_1_L1, if_pos h1]
theorem gsY_X11_token_1_q5 {NF : Nat} {n1 : Nat} {v1 : Nat → Int32} {f1 : Nat → Nat → Int32} {w1 : Int64} {g1 : Nat → Int64} {r3 : Int32} {r9 : Int32} {r13 : Int32} (h0 : r3 = gsY_X11_here_1 NF 0 v1 f1 w1 g1) (h1 : ¬ (r3 = 32)) (h2 : r9 = gsY_X11_here_1 NF 0 v1 f1 w1 g1) (h3 : ¬ (r9 = 10)) (h4 : r13 = gsY_X11_here_1 NF 0 (upd v1 6 (v1 3)) f1 w1 g1) (h5 : (0 ≤ r13)) (h6 : gsY_X11_isLetter_1 NF r13 (upd (upd v1 6 (v1 3)) 7 0) f1 0 g1 = 1) : gsY_X11_token_1_L1 NF (n1 + 1) v1 f1 w1 g1 = gsY_X11_token_1_L20 NF v1 (4294967296 + NF) 0 (upd (upd v1 6 (v1 3)) 7 0) f1 0 g1 := by
  subst h0 h2 h4
  simp only [gsY_X11_token_1_L1, if_neg h1, if_neg h3, if_pos h5, h6, ite11, ite01, if_true, if_false]
theorem gsY_X11_token_1_q11 {NF : Nat} {n1 : Nat} {v1 : Nat → Int32} {f1 : Nat → Nat → Int32} {w1 : Int64} {g1 : Nat → Int64} {r3 : Int32} {r9 : Int32} {r13 : Int32} (h0 : r3 = gsY_X11_here_1 NF 0 v1 f1 w1 g1) (h1 : ¬ (r3 = 32)) (h2 : r9 = gsY_X11_here_1 NF 0 v1 f1 w1 g1) (h3 : ¬ (r9 = 10)) (h4 : r13 = gsY_X11_here_1 NF 0 (upd v1 6 (v1 3)) f1 w1 g1) (h5 : (0 ≤ r13)) (h6 : gsY_X11_isLetter_1 NF r13 (upd (upd v1 6 (v1 3)) 7 0) f1 0 g1 = 0) (h7 : gsY_X11_isDigit_1 NF r13 (upd (upd v1 6 (v1 3)) 7 0) f1 0 g1 = 1) : gsY_X11_token_1_L1 NF (n1 + 1) v1 f1 w1 g1 = gsY_X11_token_1_L47 NF v1 (4294967296 + NF) 0 (upd (upd v1 6 (v1 3)) 7 0) f1 0 g1 := by
  subst h0 h2 h4
  simp only [gsY_X11_token_1_L1, if_neg h1, if_neg h3, if_pos h5, h6, h7, ite11, ite01, if_true, if_false]
theorem gsY_X11_token_1_q12 {NF : Nat} {n1 : Nat} {v1 : Nat → Int32} {f1 : Nat → Nat → Int32} {w1 : Int64} {g1 : Nat → Int64} {r3 : Int32} {r9 : Int32} {r13 : Int32} (h0 : r3 = gsY_X11_here_1 NF 0 v1 f1 w1 g1) (h1 : ¬ (r3 = 32)) (h2 : r9 = gsY_X11_here_1 NF 0 v1 f1 w1 g1) (h3 : ¬ (r9 = 10)) (h4 : r13 = gsY_X11_here_1 NF 0 (upd v1 6 (v1 3)) f1 w1 g1) (h5 : (0 ≤ r13)) (h6 : gsY_X11_isLetter_1 NF r13 (upd (upd v1 6 (v1 3)) 7 0) f1 0 g1 = 0) (h7 : gsY_X11_isDigit_1 NF r13 (upd (upd v1 6 (v1 3)) 7 0) f1 0 g1 = 0) (h8 : gsY_X11_isSign_1 NF r13 (upd (upd v1 6 (v1 3)) 7 0) f1 0 g1 = 1) (h9 : (r13 = 3)) : gsY_X11_token_1_L1 NF (n1 + 1) v1 f1 w1 g1 = ((upd (upd (upd v1 6 (v1 3)) 7 0) 5 r13), f1, 0, g1) := by
  subst h0 h2 h4
  simp only [gsY_X11_token_1_L1, if_neg h1, if_neg h3, if_pos h5, h6, h7, h8, if_pos h9, ite11, ite01, if_true, if_false]
theorem gsY_X11_token_1_q13 {NF : Nat} {n1 : Nat} {v1 : Nat → Int32} {f1 : Nat → Nat → Int32} {w1 : Int64} {g1 : Nat → Int64} {r3 : Int32} {r9 : Int32} {r13 : Int32} {t81 : Int32} (h0 : r3 = gsY_X11_here_1 NF 0 v1 f1 w1 g1) (h1 : ¬ (r3 = 32)) (h2 : r9 = gsY_X11_here_1 NF 0 v1 f1 w1 g1) (h3 : ¬ (r9 = 10)) (h4 : r13 = gsY_X11_here_1 NF 0 (upd v1 6 (v1 3)) f1 w1 g1) (h5 : (0 ≤ r13)) (h6 : gsY_X11_isLetter_1 NF r13 (upd (upd v1 6 (v1 3)) 7 0) f1 0 g1 = 0) (h7 : gsY_X11_isDigit_1 NF r13 (upd (upd v1 6 (v1 3)) 7 0) f1 0 g1 = 0) (h8 : gsY_X11_isSign_1 NF r13 (upd (upd v1 6 (v1 3)) 7 0) f1 0 g1 = 1) (h9 : ¬ (r13 = 3)) (h10 : t81 = (v1 3) + 1) : gsY_X11_token_1_L1 NF (n1 + 1) v1 f1 w1 g1 = ((upd (upd (upd (upd v1 6 (v1 3)) 7 0) 5 r13) 3 t81), f1, 0, g1) := by
  subst h0 h2 h4 h10
  simp only [gsY_X11_token_1_L1, if_neg h1, if_neg h3, if_pos h5, h6, h7, h8, if_neg h9, ite11, ite01, if_true, if_false]
theorem gsY_X11_token_1_q14 {NF : Nat} {n1 : Nat} {v1 : Nat → Int32} {f1 : Nat → Nat → Int32} {w1 : Int64} {g1 : Nat → Int64} {r3 : Int32} {r9 : Int32} {r13 : Int32} (h0 : r3 = gsY_X11_here_1 NF 0 v1 f1 w1 g1) (h1 : ¬ (r3 = 32)) (h2 : r9 = gsY_X11_here_1 NF 0 v1 f1 w1 g1) (h3 : ¬ (r9 = 10)) (h4 : r13 = gsY_X11_here_1 NF 0 (upd v1 6 (v1 3)) f1 w1 g1) (h5 : (0 ≤ r13)) (h6 : gsY_X11_isLetter_1 NF r13 (upd (upd v1 6 (v1 3)) 7 0) f1 0 g1 = 0) (h7 : gsY_X11_isDigit_1 NF r13 (upd (upd v1 6 (v1 3)) 7 0) f1 0 g1 = 0) (h8 : gsY_X11_isSign_1 NF r13 (upd (upd v1 6 (v1 3)) 7 0) f1 0 g1 = 0) : gsY_X11_token_1_L1 NF (n1 + 1) v1 f1 w1 g1 = ((upd (upd (upd v1 6 (v1 3)) 7 0) 5 3), f1, 0, g1) := by
  subst h0 h2 h4
  simp only [gsY_X11_token_1_L1, if_neg h1, if_neg h3, if_pos h5, h6, h7, h8, ite11, ite01, if_true, if_false]
theorem gsY_X11_token_1_q15 {NF : Nat} {n1 : Nat} {v1 : Nat → Int32} {f1 : Nat → Nat → Int32} {w1 : Int64} {g1 : Nat → Int64} {r3 : Int32} {r9 : Int32} {r13 : Int32} {t83 : Int32} (h0 : r3 = gsY_X11_here_1 NF 0 v1 f1 w1 g1) (h1 : ¬ (r3 = 32)) (h2 : r9 = gsY_X11_here_1 NF 0 v1 f1 w1 g1) (h3 : ¬ (r9 = 10)) (h4 : r13 = gsY_X11_here_1 NF 0 (upd v1 6 (v1 3)) f1 w1 g1) (h5 : ¬ (0 ≤ r13)) (h6 : t83 = (v1 3) + 0) : gsY_X11_token_1_L1 NF (n1 + 1) v1 f1 w1 g1 = ((upd (upd (upd (upd v1 6 (v1 3)) 7 0) 5 0) 3 t83), f1, 0, g1) := by
  subst h0 h2 h4 h6
  simp only [gsY_X11_token_1_L1, if_neg h1, if_neg h3, if_neg h5]
theorem gsY_X11_token_1_q16 {NF : Nat} {n1 : Nat} {v1 : Nat → Int32} {f1 : Nat → Nat → Int32} {w1 : Int64} {g1 : Nat → Int64} {r3 : Int32} {r9 : Int32} {t85 : Int32} (h0 : r3 = gsY_X11_here_1 NF 0 v1 f1 w1 g1) (h1 : ¬ (r3 = 32)) (h2 : r9 = gsY_X11_here_1 NF 0 v1 f1 w1 g1) (h3 : (r9 = 10)) (h4 : t85 = (v1 3) + 1) : gsY_X11_token_1_L1 NF (n1 + 1) v1 f1 w1 g1 = gsY_X11_token_1_L1 NF n1 (upd v1 3 t85) f1 w1 g1 := by
  subst h0 h2 h4
  simp only [gsY_X11_token_1_L1, if_neg h1, if_pos h3]
theorem gsY_X11_token_1_q1 {NF : Nat} {v1 : Nat → Int32} {n20 : Nat} {l2_20 : Int32} {v20 : Nat → Int32} {f20 : Nat → Nat → Int32} {w20 : Int64} {g20 : Nat → Int64} {r21 : Int32} {t28 : Int32} (h0 : r21 = gsY_X11_here_1 NF l2_20 v20 f20 w20 g20) (h1 : gsY_X11_isLetter_1 NF r21 v20 f20 w20 g20 = 1) (h2 : (8 ≤ l2_20)) (h3 : t28 = l2_20 + 1) : gsY_X11_token_1_L20 NF v1 (n20 + 1) l2_20 v20 f20 w20 g20 = gsY_X11_token_1_L20 NF v1 n20 t28 v20 f20 w20 g20 := by
  subst h0 h3
  simp only [gsY_X11_token_1_L20, h1, if_pos h2, ite11, ite01, if_true, if_false]
theorem gsY_X11_token_1_q2 {NF : Nat} {v1 : Nat → Int32} {n20 : Nat} {l2_20 : Int32} {v20 : Nat → Int32} {f20 : Nat → Nat → Int32} {w20 : Int64} {g20 : Nat → Int64} {r21 : Int32} {j31 : Int64} {r32 : Int32} {j35 : Int64} {j36 : Int64} {t37 : Int32} (h0 : r21 = gsY_X11_here_1 NF l2_20 v20 f20 w20 g20) (h1 : gsY_X11_isLetter_1 NF r21 v20 f20 w20 g20 = 1) (h2 : ¬ (8 ≤ l2_20)) (h3 : j31 = w20 <<< ((8 : Int32).toInt64 &&& 63)) (h4 : r32 = gsY_X11_here_1 NF l2_20 v20 f20 w20 g20) (h5 : j35 = r32.toInt64) (h6 : j36 = j31 ||| j35) (h7 : t37 = l2_20 + 1) : gsY_X11_token_1_L20 NF v1 (n20 + 1) l2_20 v20 f20 w20 g20 = gsY_X11_token_1_L20 NF v1 n20 t37 v20 f20 j36 g20 := by
  subst h0 h3 h4 h5 h6 h7
  simp only [gsY_X11_token_1_L20, h1, if_neg h2, ite11, ite01, if_true, if_false]
theorem gsY_X11_token_1_q3 {NF : Nat} {v1 : Nat → Int32} {n20 : Nat} {l2_20 : Int32} {v20 : Nat → Int32} {f20 : Nat → Nat → Int32} {w20 : Int64} {g20 : Nat → Int64} {r21 : Int32} {t41 : Int32} (h0 : r21 = gsY_X11_here_1 NF l2_20 v20 f20 w20 g20) (h1 : gsY_X11_isLetter_1 NF r21 v20 f20 w20 g20 = 0) (h2 : (l2_20 ≤ 8)) (h3 : t41 = (v1 3) + l2_20) : gsY_X11_token_1_L20 NF v1 (n20 + 1) l2_20 v20 f20 w20 g20 = ((upd (upd v20 5 1) 3 t41), f20, w20, g20) := by
  subst h0 h3
  simp only [gsY_X11_token_1_L20, h1, if_pos h2, ite11, ite01, if_true, if_false]
theorem gsY_X11_token_1_q4 {NF : Nat} {v1 : Nat → Int32} {n20 : Nat} {l2_20 : Int32} {v20 : Nat → Int32} {f20 : Nat → Nat → Int32} {w20 : Int64} {g20 : Nat → Int64} {r21 : Int32} (h0 : r21 = gsY_X11_here_1 NF l2_20 v20 f20 w20 g20) (h1 : gsY_X11_isLetter_1 NF r21 v20 f20 w20 g20 = 0) (h2 : ¬ (l2_20 ≤ 8)) : gsY_X11_token_1_L20 NF v1 (n20 + 1) l2_20 v20 f20 w20 g20 = ((upd v20 5 3), f20, w20, g20) := by
  subst h0
  simp only [gsY_X11_token_1_L20, h1, if_neg h2, ite11, ite01, if_true, if_false]
theorem gsY_X11_token_1_q6 {NF : Nat} {v1 : Nat → Int32} {n47 : Nat} {l2_47 : Int32} {v47 : Nat → Int32} {f47 : Nat → Nat → Int32} {w47 : Int64} {g47 : Nat → Int64} {r48 : Int32} {t55 : Int32} (h0 : r48 = gsY_X11_here_1 NF l2_47 v47 f47 w47 g47) (h1 : gsY_X11_isDigit_1 NF r48 v47 f47 w47 g47 = 1) (h2 : (4 ≤ l2_47)) (h3 : t55 = l2_47 + 1) : gsY_X11_token_1_L47 NF v1 (n47 + 1) l2_47 v47 f47 w47 g47 = gsY_X11_token_1_L47 NF v1 n47 t55 v47 f47 w47 g47 := by
  subst h0 h3
  simp only [gsY_X11_token_1_L47, h1, if_pos h2, ite11, ite01, if_true, if_false]
theorem gsY_X11_token_1_q7 {NF : Nat} {v1 : Nat → Int32} {n47 : Nat} {l2_47 : Int32} {v47 : Nat → Int32} {f47 : Nat → Nat → Int32} {w47 : Int64} {g47 : Nat → Int64} {r48 : Int32} {t58 : Int32} {r59 : Int32} {t62 : Int32} {t63 : Int32} {t64 : Int32} (h0 : r48 = gsY_X11_here_1 NF l2_47 v47 f47 w47 g47) (h1 : gsY_X11_isDigit_1 NF r48 v47 f47 w47 g47 = 1) (h2 : ¬ (4 ≤ l2_47)) (h3 : t58 = 10 * (v47 7)) (h4 : r59 = gsY_X11_here_1 NF l2_47 v47 f47 w47 g47) (h5 : t62 = t58 + r59) (h6 : t63 = t62 - 48) (h7 : t64 = l2_47 + 1) : gsY_X11_token_1_L47 NF v1 (n47 + 1) l2_47 v47 f47 w47 g47 = gsY_X11_token_1_L47 NF v1 n47 t64 (upd v47 7 t63) f47 w47 g47 := by
  subst h0 h3 h4 h5 h6 h7
  simp only [gsY_X11_token_1_L47, h1, if_neg h2, ite11, ite01, if_true, if_false]
theorem gsY_X11_token_1_q8 {NF : Nat} {v1 : Nat → Int32} {n47 : Nat} {l2_47 : Int32} {v47 : Nat → Int32} {f47 : Nat → Nat → Int32} {w47 : Int64} {g47 : Nat → Int64} {r48 : Int32} (h0 : r48 = gsY_X11_here_1 NF l2_47 v47 f47 w47 g47) (h1 : gsY_X11_isDigit_1 NF r48 v47 f47 w47 g47 = 0) (h2 : (4 < l2_47)) : gsY_X11_token_1_L47 NF v1 (n47 + 1) l2_47 v47 f47 w47 g47 = ((upd v47 5 3), f47, w47, g47) := by
  subst h0
  simp only [gsY_X11_token_1_L47, h1, if_pos h2, ite11, ite01, if_true, if_false]
theorem gsY_X11_token_1_q9 {NF : Nat} {v1 : Nat → Int32} {n47 : Nat} {l2_47 : Int32} {v47 : Nat → Int32} {f47 : Nat → Nat → Int32} {w47 : Int64} {g47 : Nat → Int64} {r48 : Int32} {r68 : Int32} (h0 : r48 = gsY_X11_here_1 NF l2_47 v47 f47 w47 g47) (h1 : gsY_X11_isDigit_1 NF r48 v47 f47 w47 g47 = 0) (h2 : ¬ (4 < l2_47)) (h3 : r68 = gsY_X11_here_1 NF l2_47 v47 f47 w47 g47) (h4 : gsY_X11_isLetter_1 NF r68 v47 f47 w47 g47 = 1) : gsY_X11_token_1_L47 NF v1 (n47 + 1) l2_47 v47 f47 w47 g47 = ((upd v47 5 3), f47, w47, g47) := by
  subst h0 h3
  simp only [gsY_X11_token_1_L47, h1, if_neg h2, h4, ite11, ite01, if_true, if_false]
theorem gsY_X11_token_1_q10 {NF : Nat} {v1 : Nat → Int32} {n47 : Nat} {l2_47 : Int32} {v47 : Nat → Int32} {f47 : Nat → Nat → Int32} {w47 : Int64} {g47 : Nat → Int64} {r48 : Int32} {r68 : Int32} {t74 : Int32} (h0 : r48 = gsY_X11_here_1 NF l2_47 v47 f47 w47 g47) (h1 : gsY_X11_isDigit_1 NF r48 v47 f47 w47 g47 = 0) (h2 : ¬ (4 < l2_47)) (h3 : r68 = gsY_X11_here_1 NF l2_47 v47 f47 w47 g47) (h4 : gsY_X11_isLetter_1 NF r68 v47 f47 w47 g47 = 0) (h5 : t74 = (v1 3) + l2_47) : gsY_X11_token_1_L47 NF v1 (n47 + 1) l2_47 v47 f47 w47 g47 = ((upd (upd v47 5 2) 3 t74), f47, w47, g47) := by
  subst h0 h3 h5
  simp only [gsY_X11_token_1_L47, h1, if_neg h2, h4, ite11, ite01, if_true, if_false]
def gsY_X11_wrong_1 (NF : Nat) (p1 : Int32) (v : Nat → Int32) (f : Nat → Nat → Int32) (w : Int64) (g : Nat → Int64) : (Nat → Int32) × (Nat → Nat → Int32) × (Int64) × (Nat → Int64) :=
  if (v 1) ≤ 0 then
    if (v 5) = 3 then
      ((upd (upd v 1 1) 2 (v 6)), f, w, g)
    else
      ((upd (upd v 1 p1) 2 (v 6)), f, w, g)
  else
    (v, f, w, g)
theorem gsY_X11_wrong_1_q0 {NF : Nat} {p1 : Int32} {v : Nat → Int32} {f : Nat → Nat → Int32} {w : Int64} {g : Nat → Int64} (h0 : ((v 1) ≤ 0)) (h1 : ¬ ((v 5) = 3)) : gsY_X11_wrong_1 NF p1 v f w g = ((upd (upd v 1 p1) 2 (v 6)), f, w, g) := by
  simp only [gsY_X11_wrong_1, if_pos h0, if_neg h1]
theorem gsY_X11_wrong_1_q1 {NF : Nat} {p1 : Int32} {v : Nat → Int32} {f : Nat → Nat → Int32} {w : Int64} {g : Nat → Int64} (h0 : ((v 1) ≤ 0)) (h1 : ((v 5) = 3)) : gsY_X11_wrong_1 NF p1 v f w g = ((upd (upd v 1 1) 2 (v 6)), f, w, g) := by
  simp only [gsY_X11_wrong_1, if_pos h0, if_pos h1]
theorem gsY_X11_wrong_1_q2 {NF : Nat} {p1 : Int32} {v : Nat → Int32} {f : Nat → Nat → Int32} {w : Int64} {g : Nat → Int64} (h0 : ¬ ((v 1) ≤ 0)) : gsY_X11_wrong_1 NF p1 v f w g = (v, f, w, g) := by
  simp only [gsY_X11_wrong_1, if_neg h0]
def gsY_X11_isWord_1 (NF : Nat) (j1 : Int64) (v : Nat → Int32) (f : Nat → Nat → Int32) (w : Int64) (g : Nat → Int64) : Int32 :=
  if (v 5) = 1 then
    let t2 : Int32 := lg_cmp w j1
    if t2 = 0 then
      1
    else
      0
  else
    0
theorem gsY_X11_isWord_1_q0 {NF : Nat} {j1 : Int64} {v : Nat → Int32} {f : Nat → Nat → Int32} {w : Int64} {g : Nat → Int64} (h0 : ¬ ((v 5) = 1)) : gsY_X11_isWord_1 NF j1 v f w g = 0 := by
  simp only [gsY_X11_isWord_1, if_neg h0]
theorem gsY_X11_isWord_1_q1 {NF : Nat} {j1 : Int64} {v : Nat → Int32} {f : Nat → Nat → Int32} {w : Int64} {g : Nat → Int64} {t2 : Int32} (h0 : ((v 5) = 1)) (h1 : t2 = lg_cmp w j1) (h2 : ¬ (t2 = 0)) : gsY_X11_isWord_1 NF j1 v f w g = 0 := by
  subst h1
  simp only [gsY_X11_isWord_1, if_pos h0, if_neg h2]
theorem gsY_X11_isWord_1_q2 {NF : Nat} {j1 : Int64} {v : Nat → Int32} {f : Nat → Nat → Int32} {w : Int64} {g : Nat → Int64} {t2 : Int32} (h0 : ((v 5) = 1)) (h1 : t2 = lg_cmp w j1) (h2 : (t2 = 0)) : gsY_X11_isWord_1 NF j1 v f w g = 1 := by
  subst h1
  simp only [gsY_X11_isWord_1, if_pos h0, if_pos h2]
def gsY_X11_want_1 (NF : Nat) (j1 : Int64) (v : Nat → Int32) (f : Nat → Nat → Int32) (w : Int64) (g : Nat → Int64) : (Nat → Int32) × (Nat → Nat → Int32) × (Int64) × (Nat → Int64) :=
  if (v 1) ≤ 0 then
    if gsY_X11_isWord_1 NF j1 v f w g = 1 then
      match gsY_X11_token_1 NF v f w g with
      | (v6, f7, w8, g9) =>
        (v6, f7, w8, g9)
    else
      match gsY_X11_wrong_1 NF 2 v f w g with
      | (v16, f17, w18, g19) =>
        (v16, f17, w18, g19)
  else
    (v, f, w, g)
theorem gsY_X11_want_1_q0 {NF : Nat} {j1 : Int64} {v : Nat → Int32} {f : Nat → Nat → Int32} {w : Int64} {g : Nat → Int64} {v6 : Nat → Int32} {f7 : Nat → Nat → Int32} {w8 : Int64} {g9 : Nat → Int64} (h0 : ((v 1) ≤ 0)) (h1 : gsY_X11_isWord_1 NF j1 v f w g = 1) (h2 : gsY_X11_token_1 NF v f w g = (v6, f7, w8, g9)) : gsY_X11_want_1 NF j1 v f w g = (v6, f7, w8, g9) := by
  simp only [gsY_X11_want_1, if_pos h0, h1, h2, ite11, ite01, if_true, if_false]
theorem gsY_X11_want_1_q1 {NF : Nat} {j1 : Int64} {v : Nat → Int32} {f : Nat → Nat → Int32} {w : Int64} {g : Nat → Int64} {v16 : Nat → Int32} {f17 : Nat → Nat → Int32} {w18 : Int64} {g19 : Nat → Int64} (h0 : ((v 1) ≤ 0)) (h1 : gsY_X11_isWord_1 NF j1 v f w g = 0) (h2 : gsY_X11_wrong_1 NF 2 v f w g = (v16, f17, w18, g19)) : gsY_X11_want_1 NF j1 v f w g = (v16, f17, w18, g19) := by
  simp only [gsY_X11_want_1, if_pos h0, h1, h2, ite11, ite01, if_true, if_false]
theorem gsY_X11_want_1_q2 {NF : Nat} {j1 : Int64} {v : Nat → Int32} {f : Nat → Nat → Int32} {w : Int64} {g : Nat → Int64} (h0 : ¬ ((v 1) ≤ 0)) : gsY_X11_want_1 NF j1 v f w g = (v, f, w, g) := by
  simp only [gsY_X11_want_1, if_neg h0]
def gsY_X11_toldNumber_1 (NF : Nat) (p1 : Int32) (p2 : Int32) (v : Nat → Int32) (f : Nat → Nat → Int32) (w : Int64) (g : Nat → Int64) : Int32 × (Nat → Int32) × (Nat → Nat → Int32) × (Int64) × (Nat → Int64) :=
  if (v 1) ≤ 0 then
    if (v 5) = 2 then
      if (v 7) < p1 then
        match gsY_X11_wrong_1 NF 4 v f w g with
        | (v7, f8, w9, g10) =>
          if (v7 1) = 0 then
            match gsY_X11_token_1 NF v7 f8 w9 g10 with
            | (v19, f20, w21, g22) =>
              ((v7 7), v19, f20, w21, g22)
          else
            ((v7 7), v7, f8, w9, g10)
      else
        if (v 7) ≤ p2 then
          if (v 1) = 0 then
            match gsY_X11_token_1 NF v f w g with
            | (v34, f35, w36, g37) =>
              ((v 7), v34, f35, w36, g37)
          else
            ((v 7), v, f, w, g)
        else
          match gsY_X11_wrong_1 NF 4 v f w g with
          | (v45, f46, w47, g48) =>
            if (v45 1) = 0 then
              match gsY_X11_token_1 NF v45 f46 w47 g48 with
              | (v57, f58, w59, g60) =>
                ((v45 7), v57, f58, w59, g60)
            else
              ((v45 7), v45, f46, w47, g48)
    else
      match gsY_X11_wrong_1 NF 2 v f w g with
      | (v67, f68, w69, g70) =>
        if (v67 1) = 0 then
          match gsY_X11_token_1 NF v67 f68 w69 g70 with
          | (v79, f80, w81, g82) =>
            ((v67 7), v79, f80, w81, g82)
        else
          ((v67 7), v67, f68, w69, g70)
  else
    (0, v, f, w, g)
theorem gsY_X11_toldNumber_1_q0 {NF : Nat} {p1 : Int32} {p2 : Int32} {v : Nat → Int32} {f : Nat → Nat → Int32} {w : Int64} {g : Nat → Int64} {v7 : Nat → Int32} {f8 : Nat → Nat → Int32} {w9 : Int64} {g10 : Nat → Int64} (h0 : ((v 1) ≤ 0)) (h1 : ((v 5) = 2)) (h2 : ((v 7) < p1)) (h3 : gsY_X11_wrong_1 NF 4 v f w g = (v7, f8, w9, g10)) (h4 : ¬ ((v7 1) = 0)) : gsY_X11_toldNumber_1 NF p1 p2 v f w g = ((v7 7), v7, f8, w9, g10) := by
  simp only [gsY_X11_toldNumber_1, if_pos h0, if_pos h1, if_pos h2, h3, if_neg h4]
theorem gsY_X11_toldNumber_1_q1 {NF : Nat} {p1 : Int32} {p2 : Int32} {v : Nat → Int32} {f : Nat → Nat → Int32} {w : Int64} {g : Nat → Int64} {v7 : Nat → Int32} {f8 : Nat → Nat → Int32} {w9 : Int64} {g10 : Nat → Int64} {v19 : Nat → Int32} {f20 : Nat → Nat → Int32} {w21 : Int64} {g22 : Nat → Int64} (h0 : ((v 1) ≤ 0)) (h1 : ((v 5) = 2)) (h2 : ((v 7) < p1)) (h3 : gsY_X11_wrong_1 NF 4 v f w g = (v7, f8, w9, g10)) (h4 : ((v7 1) = 0)) (h5 : gsY_X11_token_1 NF v7 f8 w9 g10 = (v19, f20, w21, g22)) : gsY_X11_toldNumber_1 NF p1 p2 v f w g = ((v7 7), v19, f20, w21, g22) := by
  simp only [gsY_X11_toldNumber_1, if_pos h0, if_pos h1, if_pos h2, h3, if_pos h4, h5]
theorem gsY_X11_toldNumber_1_q2 {NF : Nat} {p1 : Int32} {p2 : Int32} {v : Nat → Int32} {f : Nat → Nat → Int32} {w : Int64} {g : Nat → Int64} (h0 : ((v 1) ≤ 0)) (h1 : ((v 5) = 2)) (h2 : ¬ ((v 7) < p1)) (h3 : ((v 7) ≤ p2)) (h4 : ¬ ((v 1) = 0)) : gsY_X11_toldNumber_1 NF p1 p2 v f w g = ((v 7), v, f, w, g) := by
  simp only [gsY_X11_toldNumber_1, if_pos h0, if_pos h1, if_neg h2, if_pos h3, if_neg h4]
theorem gsY_X11_toldNumber_1_q3 {NF : Nat} {p1 : Int32} {p2 : Int32} {v : Nat → Int32} {f : Nat → Nat → Int32} {w : Int64} {g : Nat → Int64} {v34 : Nat → Int32} {f35 : Nat → Nat → Int32} {w36 : Int64} {g37 : Nat → Int64} (h0 : ((v 1) ≤ 0)) (h1 : ((v 5) = 2)) (h2 : ¬ ((v 7) < p1)) (h3 : ((v 7) ≤ p2)) (h4 : ((v 1) = 0)) (h5 : gsY_X11_token_1 NF v f w g = (v34, f35, w36, g37)) : gsY_X11_toldNumber_1 NF p1 p2 v f w g = ((v 7), v34, f35, w36, g37) := by
  simp only [gsY_X11_toldNumber_1, if_pos h0, if_pos h1, if_neg h2, if_pos h3, if_pos h4, h5]
theorem gsY_X11_toldNumber_1_q4 {NF : Nat} {p1 : Int32} {p2 : Int32} {v : Nat → Int32} {f : Nat → Nat → Int32} {w : Int64} {g : Nat → Int64} {v45 : Nat → Int32} {f46 : Nat → Nat → Int32} {w47 : Int64} {g48 : Nat → Int64} (h0 : ((v 1) ≤ 0)) (h1 : ((v 5) = 2)) (h2 : ¬ ((v 7) < p1)) (h3 : ¬ ((v 7) ≤ p2)) (h4 : gsY_X11_wrong_1 NF 4 v f w g = (v45, f46, w47, g48)) (h5 : ¬ ((v45 1) = 0)) : gsY_X11_toldNumber_1 NF p1 p2 v f w g = ((v45 7), v45, f46, w47, g48) := by
  simp only [gsY_X11_toldNumber_1, if_pos h0, if_pos h1, if_neg h2, if_neg h3, h4, if_neg h5]
theorem gsY_X11_toldNumber_1_q5 {NF : Nat} {p1 : Int32} {p2 : Int32} {v : Nat → Int32} {f : Nat → Nat → Int32} {w : Int64} {g : Nat → Int64} {v45 : Nat → Int32} {f46 : Nat → Nat → Int32} {w47 : Int64} {g48 : Nat → Int64} {v57 : Nat → Int32} {f58 : Nat → Nat → Int32} {w59 : Int64} {g60 : Nat → Int64} (h0 : ((v 1) ≤ 0)) (h1 : ((v 5) = 2)) (h2 : ¬ ((v 7) < p1)) (h3 : ¬ ((v 7) ≤ p2)) (h4 : gsY_X11_wrong_1 NF 4 v f w g = (v45, f46, w47, g48)) (h5 : ((v45 1) = 0)) (h6 : gsY_X11_token_1 NF v45 f46 w47 g48 = (v57, f58, w59, g60)) : gsY_X11_toldNumber_1 NF p1 p2 v f w g = ((v45 7), v57, f58, w59, g60) := by
  simp only [gsY_X11_toldNumber_1, if_pos h0, if_pos h1, if_neg h2, if_neg h3, h4, if_pos h5, h6]
theorem gsY_X11_toldNumber_1_q6 {NF : Nat} {p1 : Int32} {p2 : Int32} {v : Nat → Int32} {f : Nat → Nat → Int32} {w : Int64} {g : Nat → Int64} {v67 : Nat → Int32} {f68 : Nat → Nat → Int32} {w69 : Int64} {g70 : Nat → Int64} (h0 : ((v 1) ≤ 0)) (h1 : ¬ ((v 5) = 2)) (h2 : gsY_X11_wrong_1 NF 2 v f w g = (v67, f68, w69, g70)) (h3 : ¬ ((v67 1) = 0)) : gsY_X11_toldNumber_1 NF p1 p2 v f w g = ((v67 7), v67, f68, w69, g70) := by
  simp only [gsY_X11_toldNumber_1, if_pos h0, if_neg h1, h2, if_neg h3]
theorem gsY_X11_toldNumber_1_q7 {NF : Nat} {p1 : Int32} {p2 : Int32} {v : Nat → Int32} {f : Nat → Nat → Int32} {w : Int64} {g : Nat → Int64} {v67 : Nat → Int32} {f68 : Nat → Nat → Int32} {w69 : Int64} {g70 : Nat → Int64} {v79 : Nat → Int32} {f80 : Nat → Nat → Int32} {w81 : Int64} {g82 : Nat → Int64} (h0 : ((v 1) ≤ 0)) (h1 : ¬ ((v 5) = 2)) (h2 : gsY_X11_wrong_1 NF 2 v f w g = (v67, f68, w69, g70)) (h3 : ((v67 1) = 0)) (h4 : gsY_X11_token_1 NF v67 f68 w69 g70 = (v79, f80, w81, g82)) : gsY_X11_toldNumber_1 NF p1 p2 v f w g = ((v67 7), v79, f80, w81, g82) := by
  simp only [gsY_X11_toldNumber_1, if_pos h0, if_neg h1, h2, if_pos h3, h4]
theorem gsY_X11_toldNumber_1_q8 {NF : Nat} {p1 : Int32} {p2 : Int32} {v : Nat → Int32} {f : Nat → Nat → Int32} {w : Int64} {g : Nat → Int64} (h0 : ¬ ((v 1) ≤ 0)) : gsY_X11_toldNumber_1 NF p1 p2 v f w g = (0, v, f, w, g) := by
  simp only [gsY_X11_toldNumber_1, if_neg h0]
