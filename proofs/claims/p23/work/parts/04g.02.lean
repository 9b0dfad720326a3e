def gsY_X11_fault_1 (NF : Nat) (p1 : Int32) (v : Nat → Int32) (f : Nat → Nat → Int32) (w : Int64) (g : Nat → Int64) : Int32 :=
  if p1 = 0 then
    (v 1)
  else
    if p1 = 1 then
      (v 2)
    else
      (-1)
theorem gsY_X11_fault_1_q0 {NF : Nat} {p1 : Int32} {v : Nat → Int32} {f : Nat → Nat → Int32} {w : Int64} {g : Nat → Int64} (h0 : ¬ (p1 = 0)) (h1 : ¬ (p1 = 1)) : gsY_X11_fault_1 NF p1 v f w g = (-1) := by
  simp only [gsY_X11_fault_1, if_neg h0, if_neg h1]
theorem gsY_X11_fault_1_q1 {NF : Nat} {p1 : Int32} {v : Nat → Int32} {f : Nat → Nat → Int32} {w : Int64} {g : Nat → Int64} (h0 : ¬ (p1 = 0)) (h1 : (p1 = 1)) : gsY_X11_fault_1 NF p1 v f w g = (v 2) := by
  simp only [gsY_X11_fault_1, if_neg h0, if_pos h1]
theorem gsY_X11_fault_1_q2 {NF : Nat} {p1 : Int32} {v : Nat → Int32} {f : Nat → Nat → Int32} {w : Int64} {g : Nat → Int64} (h0 : (p1 = 0)) : gsY_X11_fault_1 NF p1 v f w g = (v 1) := by
  simp only [gsY_X11_fault_1, if_pos h0]
def gsY_X11_here_1 (NF : Nat) (p1 : Int32) (v : Nat → Int32) (f : Nat → Nat → Int32) (w : Int64) (g : Nat → Int64) : Int32 :=
  let t1 : Int32 := (v 3) + p1
  if (v 4) ≤ t1 then
    (-1)
  else
    let t9 : Int32 := f 0 (t1).toNatClampNeg
    t9
theorem gsY_X11_here_1_q0 {NF : Nat} {p1 : Int32} {v : Nat → Int32} {f : Nat → Nat → Int32} {w : Int64} {g : Nat → Int64} {t1 : Int32} (h0 : t1 = (v 3) + p1) (h1 : ((v 4) ≤ t1)) : gsY_X11_here_1 NF p1 v f w g = (-1) := by
  subst h0
  simp only [gsY_X11_here_1, if_pos h1]
theorem gsY_X11_here_1_q1 {NF : Nat} {p1 : Int32} {v : Nat → Int32} {f : Nat → Nat → Int32} {w : Int64} {g : Nat → Int64} {t1 : Int32} {t9 : Int32} (h0 : t1 = (v 3) + p1) (h1 : ¬ ((v 4) ≤ t1)) (h2 : t9 = f 0 (t1).toNatClampNeg) : gsY_X11_here_1 NF p1 v f w g = t9 := by
  subst h0 h2
  simp only [gsY_X11_here_1, if_neg h1]
def gsY_X11_isLetter_1 (NF : Nat) (p0 : Int32) (v : Nat → Int32) (f : Nat → Nat → Int32) (w : Int64) (g : Nat → Int64) : Int32 :=
  if p0 < 97 then
    0
  else
    if 122 < p0 then
      0
    else
      1
theorem gsY_X11_isLetter_1_q0 {NF : Nat} {p0 : Int32} {v : Nat → Int32} {f : Nat → Nat → Int32} {w : Int64} {g : Nat → Int64} (h0 : (p0 < 97)) : gsY_X11_isLetter_1 NF p0 v f w g = 0 := by
  simp only [gsY_X11_isLetter_1, if_pos h0]
theorem gsY_X11_isLetter_1_q1 {NF : Nat} {p0 : Int32} {v : Nat → Int32} {f : Nat → Nat → Int32} {w : Int64} {g : Nat → Int64} (h0 : ¬ (p0 < 97)) (h1 : (122 < p0)) : gsY_X11_isLetter_1 NF p0 v f w g = 0 := by
  simp only [gsY_X11_isLetter_1, if_neg h0, if_pos h1]
theorem gsY_X11_isLetter_1_q2 {NF : Nat} {p0 : Int32} {v : Nat → Int32} {f : Nat → Nat → Int32} {w : Int64} {g : Nat → Int64} (h0 : ¬ (p0 < 97)) (h1 : ¬ (122 < p0)) : gsY_X11_isLetter_1 NF p0 v f w g = 1 := by
  simp only [gsY_X11_isLetter_1, if_neg h0, if_neg h1]
def gsY_X11_isDigit_1 (NF : Nat) (p0 : Int32) (v : Nat → Int32) (f : Nat → Nat → Int32) (w : Int64) (g : Nat → Int64) : Int32 :=
  if p0 < 48 then
    0
  else
    if 57 < p0 then
      0
    else
      1
theorem gsY_X11_isDigit_1_q0 {NF : Nat} {p0 : Int32} {v : Nat → Int32} {f : Nat → Nat → Int32} {w : Int64} {g : Nat → Int64} (h0 : (p0 < 48)) : gsY_X11_isDigit_1 NF p0 v f w g = 0 := by
  simp only [gsY_X11_isDigit_1, if_pos h0]
theorem gsY_X11_isDigit_1_q1 {NF : Nat} {p0 : Int32} {v : Nat → Int32} {f : Nat → Nat → Int32} {w : Int64} {g : Nat → Int64} (h0 : ¬ (p0 < 48)) (h1 : (57 < p0)) : gsY_X11_isDigit_1 NF p0 v f w g = 0 := by
  simp only [gsY_X11_isDigit_1, if_neg h0, if_pos h1]
theorem gsY_X11_isDigit_1_q2 {NF : Nat} {p0 : Int32} {v : Nat → Int32} {f : Nat → Nat → Int32} {w : Int64} {g : Nat → Int64} (h0 : ¬ (p0 < 48)) (h1 : ¬ (57 < p0)) : gsY_X11_isDigit_1 NF p0 v f w g = 1 := by
  simp only [gsY_X11_isDigit_1, if_neg h0, if_neg h1]
def gsY_X11_isSign_1 (NF : Nat) (p0 : Int32) (v : Nat → Int32) (f : Nat → Nat → Int32) (w : Int64) (g : Nat → Int64) : Int32 :=
  if p0 = 59 then
    1
  else
    if p0 = 40 then
      1
    else
      if p0 = 41 then
        1
      else
        if p0 = 60 then
          1
        else
          if p0 = 62 then
            1
          else
            if p0 = 61 then
              1
            else
              if p0 = 43 then
                1
              else
                if p0 = 45 then
                  1
                else
                  if p0 = 42 then
                    1
                  else
                    if p0 = 47 then
                      1
                    else
                      if p0 = 37 then
                        1
                      else
                        0
theorem gsY_X11_isSign_1_q0 {NF : Nat} {p0 : Int32} {v : Nat → Int32} {f : Nat → Nat → Int32} {w : Int64} {g : Nat → Int64} (h0 : (p0 = 59)) : gsY_X11_isSign_1 NF p0 v f w g = 1 := by
  simp only [gsY_X11_isSign_1, if_pos h0]
theorem gsY_X11_isSign_1_q1 {NF : Nat} {p0 : Int32} {v : Nat → Int32} {f : Nat → Nat → Int32} {w : Int64} {g : Nat → Int64} (h0 : ¬ (p0 = 59)) (h1 : (p0 = 40)) : gsY_X11_isSign_1 NF p0 v f w g = 1 := by
  simp only [gsY_X11_isSign_1, if_neg h0, if_pos h1]
theorem gsY_X11_isSign_1_q2 {NF : Nat} {p0 : Int32} {v : Nat → Int32} {f : Nat → Nat → Int32} {w : Int64} {g : Nat → Int64} (h0 : ¬ (p0 = 59)) (h1 : ¬ (p0 = 40)) (h2 : (p0 = 41)) : gsY_X11_isSign_1 NF p0 v f w g = 1 := by
  simp only [gsY_X11_isSign_1, if_neg h0, if_neg h1, if_pos h2]
theorem gsY_X11_isSign_1_q3 {NF : Nat} {p0 : Int32} {v : Nat → Int32} {f : Nat → Nat → Int32} {w : Int64} {g : Nat → Int64} (h0 : ¬ (p0 = 59)) (h1 : ¬ (p0 = 40)) (h2 : ¬ (p0 = 41)) (h3 : (p0 = 60)) : gsY_X11_isSign_1 NF p0 v f w g = 1 := by
  simp only [gsY_X11_isSign_1, if_neg h0, if_neg h1, if_neg h2, if_pos h3]
theorem gsY_X11_isSign_1_q4 {NF : Nat} {p0 : Int32} {v : Nat → Int32} {f : Nat → Nat → Int32} {w : Int64} {g : Nat → Int64} (h0 : ¬ (p0 = 59)) (h1 : ¬ (p0 = 40)) (h2 : ¬ (p0 = 41)) (h3 : ¬ (p0 = 60)) (h4 : (p0 = 62)) : gsY_X11_isSign_1 NF p0 v f w g = 1 := by
  simp only [gsY_X11_isSign_1, if_neg h0, if_neg h1, if_neg h2, if_neg h3, if_pos h4]
theorem gsY_X11_isSign_1_q5 {NF : Nat} {p0 : Int32} {v : Nat → Int32} {f : Nat → Nat → Int32} {w : Int64} {g : Nat → Int64} (h0 : ¬ (p0 = 59)) (h1 : ¬ (p0 = 40)) (h2 : ¬ (p0 = 41)) (h3 : ¬ (p0 = 60)) (h4 : ¬ (p0 = 62)) (h5 : (p0 = 61)) : gsY_X11_isSign_1 NF p0 v f w g = 1 := by
  simp only [gsY_X11_isSign_1, if_neg h0, if_neg h1, if_neg h2, if_neg h3, if_neg h4, if_pos h5]
theorem gsY_X11_isSign_1_q6 {NF : Nat} {p0 : Int32} {v : Nat → Int32} {f : Nat → Nat → Int32} {w : Int64} {g : Nat → Int64} (h0 : ¬ (p0 = 59)) (h1 : ¬ (p0 = 40)) (h2 : ¬ (p0 = 41)) (h3 : ¬ (p0 = 60)) (h4 : ¬ (p0 = 62)) (h5 : ¬ (p0 = 61)) (h6 : (p0 = 43)) : gsY_X11_isSign_1 NF p0 v f w g = 1 := by
  simp only [gsY_X11_isSign_1, if_neg h0, if_neg h1, if_neg h2, if_neg h3, if_neg h4, if_neg h5, if_pos h6]
theorem gsY_X11_isSign_1_q7 {NF : Nat} {p0 : Int32} {v : Nat → Int32} {f : Nat → Nat → Int32} {w : Int64} {g : Nat → Int64} (h0 : ¬ (p0 = 59)) (h1 : ¬ (p0 = 40)) (h2 : ¬ (p0 = 41)) (h3 : ¬ (p0 = 60)) (h4 : ¬ (p0 = 62)) (h5 : ¬ (p0 = 61)) (h6 : ¬ (p0 = 43)) (h7 : (p0 = 45)) : gsY_X11_isSign_1 NF p0 v f w g = 1 := by
  simp only [gsY_X11_isSign_1, if_neg h0, if_neg h1, if_neg h2, if_neg h3, if_neg h4, if_neg h5, if_neg h6, if_pos h7]
theorem gsY_X11_isSign_1_q8 {NF : Nat} {p0 : Int32} {v : Nat → Int32} {f : Nat → Nat → Int32} {w : Int64} {g : Nat → Int64} (h0 : ¬ (p0 = 59)) (h1 : ¬ (p0 = 40)) (h2 : ¬ (p0 = 41)) (h3 : ¬ (p0 = 60)) (h4 : ¬ (p0 = 62)) (h5 : ¬ (p0 = 61)) (h6 : ¬ (p0 = 43)) (h7 : ¬ (p0 = 45)) (h8 : (p0 = 42)) : gsY_X11_isSign_1 NF p0 v f w g = 1 := by
  simp only [gsY_X11_isSign_1, if_neg h0, if_neg h1, if_neg h2, if_neg h3, if_neg h4, if_neg h5, if_neg h6, if_neg h7, if_pos h8]
theorem gsY_X11_isSign_1_q9 {NF : Nat} {p0 : Int32} {v : Nat → Int32} {f : Nat → Nat → Int32} {w : Int64} {g : Nat → Int64} (h0 : ¬ (p0 = 59)) (h1 : ¬ (p0 = 40)) (h2 : ¬ (p0 = 41)) (h3 : ¬ (p0 = 60)) (h4 : ¬ (p0 = 62)) (h5 : ¬ (p0 = 61)) (h6 : ¬ (p0 = 43)) (h7 : ¬ (p0 = 45)) (h8 : ¬ (p0 = 42)) (h9 : (p0 = 47)) : gsY_X11_isSign_1 NF p0 v f w g = 1 := by
  simp only [gsY_X11_isSign_1, if_neg h0, if_neg h1, if_neg h2, if_neg h3, if_neg h4, if_neg h5, if_neg h6, if_neg h7, if_neg h8, if_pos h9]
theorem gsY_X11_isSign_1_q10 {NF : Nat} {p0 : Int32} {v : Nat → Int32} {f : Nat → Nat → Int32} {w : Int64} {g : Nat → Int64} (h0 : ¬ (p0 = 59)) (h1 : ¬ (p0 = 40)) (h2 : ¬ (p0 = 41)) (h3 : ¬ (p0 = 60)) (h4 : ¬ (p0 = 62)) (h5 : ¬ (p0 = 61)) (h6 : ¬ (p0 = 43)) (h7 : ¬ (p0 = 45)) (h8 : ¬ (p0 = 42)) (h9 : ¬ (p0 = 47)) (h10 : ¬ (p0 = 37)) : gsY_X11_isSign_1 NF p0 v f w g = 0 := by
  simp only [gsY_X11_isSign_1, if_neg h0, if_neg h1, if_neg h2, if_neg h3, if_neg h4, if_neg h5, if_neg h6, if_neg h7, if_neg h8, if_neg h9, if_neg h10]
theorem gsY_X11_isSign_1_q11 {NF : Nat} {p0 : Int32} {v : Nat → Int32} {f : Nat → Nat → Int32} {w : Int64} {g : Nat → Int64} (h0 : ¬ (p0 = 59)) (h1 : ¬ (p0 = 40)) (h2 : ¬ (p0 = 41)) (h3 : ¬ (p0 = 60)) (h4 : ¬ (p0 = 62)) (h5 : ¬ (p0 = 61)) (h6 : ¬ (p0 = 43)) (h7 : ¬ (p0 = 45)) (h8 : ¬ (p0 = 42)) (h9 : ¬ (p0 = 47)) (h10 : (p0 = 37)) : gsY_X11_isSign_1 NF p0 v f w g = 1 := by
  simp only [gsY_X11_isSign_1, if_neg h0, if_neg h1, if_neg h2, if_neg h3, if_neg h4, if_neg h5, if_neg h6, if_neg h7, if_neg h8, if_neg h9, if_pos h10]
def gsY_X11_token_1_L20 (NF : Nat) (v1 : Nat → Int32) : Nat → (Int32) → (Nat → Int32) → (Nat → Nat → Int32) → (Int64) → (Nat → Int64) → (Nat → Int32) × (Nat → Nat → Int32) × (Int64) × (Nat → Int64)
  | 0, _, _, _, _, _ => ((fun _ => 0), (fun _ _ => 0), 0, (fun _ => 0))
  | n20 + 1, l2_20, v20, f20, w20, g20 =>
    let r21 : Int32 := gsY_X11_here_1 NF l2_20 v20 f20 w20 g20
    if gsY_X11_isLetter_1 NF r21 v20 f20 w20 g20 = 1 then
      if 8 ≤ l2_20 then
        let t28 : Int32 := l2_20 + 1
        gsY_X11_token_1_L20 NF v1 n20 t28 v20 f20 w20 g20
      else
        let j31 : Int64 := w20 <<< ((8 : Int32).toInt64 &&& 63)
        let r32 : Int32 := gsY_X11_here_1 NF l2_20 v20 f20 w20 g20
        let j35 : Int64 := r32.toInt64
        let j36 : Int64 := j31 ||| j35
        let t37 : Int32 := l2_20 + 1
        gsY_X11_token_1_L20 NF v1 n20 t37 v20 f20 j36 g20
    else
      if l2_20 ≤ 8 then
        let t41 : Int32 := (v1 3) + l2_20
        ((upd (upd v20 5 1) 3 t41), f20, w20, g20)
      else
        ((upd v20 5 3), f20, w20, g20)
def gsY_X11_token_1_L47 (NF : Nat) (v1 : Nat → Int32) : Nat → (Int32) → (Nat → Int32) → (Nat → Nat → Int32) → (Int64) → (Nat → Int64) → (Nat → Int32) × (Nat → Nat → Int32) × (Int64) × (Nat → Int64)
  | 0, _, _, _, _, _ => ((fun _ => 0), (fun _ _ => 0), 0, (fun _ => 0))
  | n47 + 1, l2_47, v47, f47, w47, g47 =>
    let r48 : Int32 := gsY_X11_here_1 NF l2_47 v47 f47 w47 g47
    if gsY_X11_isDigit_1 NF r48 v47 f47 w47 g47 = 1 then
      if 4 ≤ l2_47 then
        let t55 : Int32 := l2_47 + 1
        gsY_X11_token_1_L47 NF v1 n47 t55 v47 f47 w47 g47
      else
        let t58 : Int32 := 10 * (v47 7)
        let r59 : Int32 := gsY_X11_here_1 NF l2_47 v47 f47 w47 g47
        let t62 : Int32 := t58 + r59
        let t63 : Int32 := t62 - 48
        let t64 : Int32 := l2_47 + 1
        gsY_X11_token_1_L47 NF v1 n47 t64 (upd v47 7 t63) f47 w47 g47
    else
      if 4 < l2_47 then
        ((upd v47 5 3), f47, w47, g47)
      else
        let r68 : Int32 := gsY_X11_here_1 NF l2_47 v47 f47 w47 g47
        if gsY_X11_isLetter_1 NF r68 v47 f47 w47 g47 = 1 then
          ((upd v47 5 3), f47, w47, g47)
        else
          let t74 : Int32 := (v1 3) + l2_47
          ((upd (upd v47 5 2) 3 t74), f47, w47, g47)
def gsY_X11_token_1_L1 (NF : Nat) : Nat → (Nat → Int32) → (Nat → Nat → Int32) → (Int64) → (Nat → Int64) → (Nat → Int32) × (Nat → Nat → Int32) × (Int64) × (Nat → Int64)
  | 0, _, _, _, _ => ((fun _ => 0), (fun _ _ => 0), 0, (fun _ => 0))
  | n1 + 1, v1, f1, w1, g1 =>
    let r3 : Int32 := gsY_X11_here_1 NF 0 v1 f1 w1 g1
    if r3 = 32 then
      let t7 : Int32 := (v1 3) + 1
      gsY_X11_token_1_L1 NF n1 (upd v1 3 t7) f1 w1 g1
    else
      let r9 : Int32 := gsY_X11_here_1 NF 0 v1 f1 w1 g1
      if r9 = 10 then
        let t85 : Int32 := (v1 3) + 1
        gsY_X11_token_1_L1 NF n1 (upd v1 3 t85) f1 w1 g1
      else
        let r13 : Int32 := gsY_X11_here_1 NF 0 (upd v1 6 (v1 3)) f1 w1 g1
        if 0 ≤ r13 then
          if gsY_X11_isLetter_1 NF r13 (upd (upd v1 6 (v1 3)) 7 0) f1 0 g1 = 1 then
            gsY_X11_token_1_L20 NF v1 (4294967296 + NF) 0 (upd (upd v1 6 (v1 3)) 7 0) f1 0 g1
          else
            if gsY_X11_isDigit_1 NF r13 (upd (upd v1 6 (v1 3)) 7 0) f1 0 g1 = 1 then
              gsY_X11_token_1_L47 NF v1 (4294967296 + NF) 0 (upd (upd v1 6 (v1 3)) 7 0) f1 0 g1
            else
              if gsY_X11_isSign_1 NF r13 (upd (upd v1 6 (v1 3)) 7 0) f1 0 g1 = 1 then
                if r13 = 3 then
                  ((upd (upd (upd v1 6 (v1 3)) 7 0) 5 r13), f1, 0, g1)
                else
                  let t81 : Int32 := (v1 3) + 1
                  ((upd (upd (upd (upd v1 6 (v1 3)) 7 0) 5 r13) 3 t81), f1, 0, g1)
              else
                ((upd (upd (upd v1 6 (v1 3)) 7 0) 5 3), f1, 0, g1)
        else
          let t83 : Int32 := (v1 3) + 0
          ((upd (upd (upd (upd v1 6 (v1 3)) 7 0) 5 0) 3 t83), f1, 0, g1)
def gsY_X11_token_1 (NF : Nat) (v : Nat → Int32) (f : Nat → Nat → Int32) (w : Int64) (g : Nat → Int64) : (Nat → Int32) × (Nat → Nat → Int32) × (Int64) × (Nat → Int64) :=
  gsY_X11_token_1_L1 NF (4294967296 + NF) v f w g
theorem gsY_X11_token_1_q17 {NF : Nat} {v : Nat → Int32} {f : Nat → Nat → Int32} {w : Int64} {g : Nat → Int64}  : gsY_X11_token_1 NF v f w g = gsY_X11_token_1_L1 NF (4294967296 + NF) v f w g := by
  simp only [gsY_X11_token_1]
theorem gsY_X11_token_1_q0 {NF : Nat} {n1 : Nat} {v1 : Nat → Int32} {f1 : Nat → Nat → Int32} {w1 : Int64} {g1 : Nat → Int64} {r3 : Int32} {t7 : Int32} (h0 : r3 = gsY_X11_here_1 NF 0 v1 f1 w1 g1) (h1 : (r3 = 32)) (h2 : t7 = (v1 3) + 1) : gsY_X11_token_1_L1 NF (n1 + 1) v1 f1 w1 g1 = gsY_X11_token_1_L1 NF n1 (upd v1 3 t7) f1 w1 g1 := by
  subst h0 h2
  simp only [gsY_X11_token_1_L1, if_pos h1]
theorem gsY_X11_token_1_q5 {NF : Nat} {n1 : Nat} {v1 : Nat → Int32} {f1 : Nat → Nat → Int32} {w1 : Int64} {g1 : Nat → Int64} {r3 : Int32} {r9 : Int32} {r13 : Int32} (h0 : r3 = gsY_X11_here_1 NF 0 v1 f1 w1 g1) (h1 : ¬ (r3 = 32)) (h2 : r9 = gsY_X11_here_1 NF 0 v1 f1 w1 g1) (h3 : ¬ (r9 = 10)) (h4 : r13 = gsY_X11_here_1 NF 0 (upd v1 6 (v1 3)) f1 w1 g1) (h5 : (0 ≤ r13)) (h6 : gsY_X11_isLetter_1 NF r13 (upd (upd v1 6 (v1 3)) 7 0) f1 0 g1 = 1) : gsY_X11_token_1_L1 NF (n1 + 1) v1 f1 w1 g1 = gsY_X11_token_1_L20 NF v1 (4294967296 + NF) 0 (upd (upd v1 6 (v1 3)) 7 0) f1 0 g1 := by
  subst h0 h2 h4
  simp only [gsY_X11_token_1_L1, if_neg h1, if_neg h3, if_pos h5, h6, ite11, ite01, if_true, if_false]
theorem gsY_X11_token_1_q11 {NF : Nat} {n1 : Nat} {v1 : Nat → Int32} {f1 : Nat → Nat → Int32} {w1 : Int64} {g1 : Nat → Int64} {r3 : Int32} {r9 : Int32} {r13 : Int32} (h0 : r3 = gsY_X11_here_1 NF 0 v1 f1 w1 g1) (h1 : ¬ (r3 = 32)) (h2 : r9 = gsY_X11_here_1 NF 0 v1 f1 w1 g1) (h3 : ¬ (r9 = 10)) (h4 : r13 = gsY_X11_here_1 NF 0 (upd v1 6 (v1 3)) f1 w1 g1) (h5 : (0 ≤ r13)) (h6 : gsY_X11_isLetter_1 NF r13 (upd (upd v1 6 (v1 3)) 7 0) f1 0 g1 = 0) (h7 : gsY_X11_isDigit_1 NF r13 (upd (upd v1 6 (v1 3)) 7 0) f1 0 g1 = 1) : gsY_X11_token_1_L1 NF (n1 + 1) v1 f1 w1 g1 = gsY_X11_token_1_L47 NF v1 (4294967296 + NF) 0 (upd (upd v1 6 (v1 3)) 7 0) f1 0 g1 := by
  subst h0 h2 h4
  simp only [gsY_X11_token_1_L1, if_neg h1, if_neg h3, if_pos h5, h6, h7, ite11, ite01, if_true, if_false]
theorem gsY_X11_token_1_q12 {NF : Nat} {n1 : Nat} {v1 : Nat → Int32} {f1 : Nat → Nat → Int32} {w1 : Int64} {g1 : Nat → Int64} {r3 : Int32} {r9 : Int32} {r13 : Int32} (h0 : r3 = gsY_X11_here_1 NF 0 v1 f1 w1 g1) (h1 : ¬ (r3 = 32)) (h2 : r9 = gsY_X11_here_1 NF 0 v1 f1 w1 g1) (h3 : ¬ (r9 = 10)) (h4 : r13 = gsY_X11_here_1 NF 0 (upd v1 6 (v1 3)) f1 w1 g1) (h5 : (0 ≤ r13)) (h6 : gsY_X11_isLetter_1 NF r13 (upd (upd v1 6 (v1 3)) 7 0) f1 0 g1 = 0) (h7 : gsY_X11_isDigit_1 NF r13 (upd (upd v1 6 (v1 3)) 7 0) f1 0 g1 = 0) (h8 : gsY_X11_isSign_1 NF r13 (upd (upd v1 6 (v1 3)) 7 0) f1 0 g1 = 1) (h9 : (r13 = 3)) : gsY_X11_token_1_L1 NF (n1 + 1) v1 f1 w1 g1 = ((upd (upd (upd v1 6 (v1 3)) 7 0) 5 r13), f1, 0, g1) := by
  subst h0 h2 h4
  simp only [gsY_X11_token_1_L1, if_neg h1, if_neg h3, if_pos h5, h6, h7, h8, if_pos h9, ite11, ite01, if_true, if_false]
theorem gsY_X11_token_1_q13 {NF : Nat} {n1 : Nat} {v1 : Nat → Int32} {f1 : Nat → Nat → Int32} {w1 : Int64} {g1 : Nat → Int64} {r3 : Int32} {r9 : Int32} {r13 : Int32} {t81 : Int32} (h0 : r3 = gsY_X11_here_1 NF 0 v1 f1 w1 g1) (h1 : ¬ (r3 = 32)) (h2 : r9 = gsY_X11_here_1 NF 0 v1 f1 w1 g1) (h3 : ¬ (r9 = 10)) (h4 : r13 = gsY_X11_here_1 NF 0 (upd v1 6 (v1 3)) f1 w1 g1) (h5 : (0 ≤ r13)) (h6 : gsY_X11_isLetter_1 NF r13 (upd (upd v1 6 (v1 3)) 7 0) f1 0 g1 = 0) (h7 : gsY_X11_isDigit_1 NF r13 (upd (upd v1 6 (v1 3)) 7 0) f1 0 g1 = 0) (h8 : gsY_X11_isSign_1 NF r13 (upd (upd v1 6 (v1 3)) 7 0) f1 0 g1 = 1) (h9 : ¬ (r13 = 3)) (h10 : t81 = (v1 3) + 1) : gsY_X11_token_1_L1 NF (n1 + 1) v1 f1 w1 g1 = ((upd (upd (upd (upd v1 6 (v1 3)) 7 0) 5 r13) 3 t81), f1, 0, g1) := by
  subst h0 h2 h4 h10
  simp only [gsY_X11_token_1_L1, if_neg h1, if_neg h3, if_pos h5, h6, h7, h8, if_neg h9, ite11, ite01, if_true, if_false]
theorem gsY_X11_token_1_q14 {NF : Nat} {n1 : Nat} {v1 : Nat → Int32} {f1 : Nat → Nat → Int32} {w1 : Int64} {g1 : Nat → Int64} {r3 : Int32} {r9 : Int32} {r13 : Int32} (h0 : r3 = gsY_X11_here_1 NF 0 v1 f1 w1 g1) (h1 : ¬ (r3 = 32)) (h2 : r9 = gsY_X11_here_1 NF 0 v1 f1 w1 g1) (h3 : ¬ (r9 = 10)) (h4 : r13 = gsY_X11_here_1 NF 0 (upd v1 6 (v1 3)) f1 w1 g1) (h5 : (0 ≤ r13)) (h6 : gsY_X11_isLetter_1 NF r13 (upd (upd v1 6 (v1 3)) 7 0) f1 0 g1 = 0) (h7 : gsY_X11_isDigit_1 NF r13 (upd (upd v1 6 (v1 3)) 7 0) f1 0 g1 = 0) (h8 : gsY_X11_isSign_1 NF r13 (upd (upd v1 6 (v1 3)) 7 0) f1 0 g1 = 0) : gsY_X11_token_1_L1 NF (n1 + 1) v1 f1 w1 g1 = ((upd (upd (upd v1 6 (v1 3)) 7 0) 5 3), f1, 0, g1) := by
  subst h0 h2 h4
  simp only [gsY_X11_token_1_L1, if_neg h1, if_neg h3, if_pos h5, h6, h7, h8, ite11, ite01, if_true, if_false]
theorem gsY_X11_token_1_q15 {NF : Nat} {n1 : Nat} {v1 : Nat → Int32} {f1 : Nat → Nat → Int32} {w1 : Int64} {g1 : Nat → Int64} {r3 : Int32} {r9 : Int32} {r13 : Int32} {t83 : Int32} (h0 : r3 = gsY_X11_here_1 NF 0 v1 f1 w1 g1) (h1 : ¬ (r3 = 32)) (h2 : r9 = gsY_X11_here_1 NF 0 v1 f1 w1 g1) (h3 : ¬ (r9 = 10)) (h4 : r13 = gsY_X11_here_1 NF 0 (upd v1 6 (v1 3)) f1 w1 g1) (h5 : ¬ (0 ≤ r13)) (h6 : t83 = (v1 3) + 0) : gsY_X11_token_1_L1 NF (n1 + 1) v1 f1 w1 g1 = ((upd (upd (upd (upd v1 6 (v1 3)) 7 0) 5 0) 3 t83), f1, 0, g1) := by
  subst h0 h2 h4 h6
  simp only [gsY_X11_token_1_L1, if_neg h1, if_neg h3, if_neg h5]
theorem gsY_X11_token_1_q16 {NF : Nat} {n1 : Nat} {v1 : Nat → Int32} {f1 : Nat → Nat → Int32} {w1 : Int64} {g1 : Nat → Int64} {r3 : Int32} {r9 : Int32} {t85 : Int32} (h0 : r3 = gsY_X11_here_1 NF 0 v1 f1 w1 g1) (h1 : ¬ (r3 = 32)) (h2 : r9 = gsY_X11_here_1 NF 0 v1 f1 w1 g1) (h3 : (r9 = 10)) (h4 : t85 = (v1 3) + 1) : gsY_X11_token_1_L1 NF (n1 + 1) v1 f1 w1 g1 = gsY_X11_token_1_L1 NF n1 (upd v1 3 t85) f1 w1 g1 := by
  subst h0 h2 h4
  simp only [gsY_X11_token_1_L1, if_neg h1, if_pos h3]
theorem gsY_X11_token_1_q1 {NF : Nat} {v1 : Nat → Int32} {n20 : Nat} {l2_20 : Int32} {v20 : Nat → Int32} {f20 : Nat → Nat → Int32} {w20 : Int64} {g20 : Nat → Int64} {r21 : Int32} {t28 : Int32} (h0 : r21 = gsY_X11_here_1 NF l2_20 v20 f20 w20 g20) (h1 : gsY_X11_isLetter_1 NF r21 v20 f20 w20 g20 = 1) (h2 : (8 ≤ l2_20)) (h3 : t28 = l2_20 + 1) : gsY_X11_token_1_L20 NF v1 (n20 + 1) l2_20 v20 f20 w20 g20 = gsY_X11_token_1_L20 NF v1 n20 t28 v20 f20 w20 g20 := by
  subst h0 h3
  simp only [gsY_X11_token_1_L20, h1, if_pos h2, ite11, ite01, if_true, if_false]
theorem gsY_X11_token_1_q2 {NF : Nat} {v1 : Nat → Int32} {n20 : Nat} {l2_20 : Int32} {v20 : Nat → Int32} {f20 : Nat → Nat → Int32} {w20 : Int64} {g20 : Nat → Int64} {r21 : Int32} {j31 : Int64} {r32 : Int32} {j35 : Int64} {j36 : Int64} {t37 : Int32} (h0 : r21 = gsY_X11_here_1 NF l2_20 v20 f20 w20 g20) (h1 : gsY_X11_isLetter_1 NF r21 v20 f20 w20 g20 = 1) (h2 : ¬ (8 ≤ l2_20)) (h3 : j31 = w20 <<< ((8 : Int32).toInt64 &&& 63)) (h4 : r32 = gsY_X11_here_1 NF l2_20 v20 f20 w20 g20) (h5 : j35 = r32.toInt64) (h6 : j36 = j31 ||| j35) (h7 : t37 = l2_20 + 1) : gsY_X11_token_1_L20 NF v1 (n20 + 1) l2_20 v20 f20 w20 g20 = gsY_X11_token_1_L20 NF v1 n20 t37 v20 f20 j36 g20 := by
  subst h0 h3 h4 h5 h6 h7
  simp only [gsY_X11_token_1_L20, h1, if_neg h2, ite11, ite01, if_true, if_false]
theorem gsY_X11_token_1_q3 {NF : Nat} {v1 : Nat → Int32} {n20 : Nat} {l2_20 : Int32} {v20 : Nat → Int32} {f20 : Nat → Nat → Int32} {w20 : Int64} {g20 : Nat → Int64} {r21 : Int32} {t41 : Int32} (h0 : r21 = gsY_X11_here_1 NF l2_20 v20 f20 w20 g20) (h1 : gsY_X11_isLetter_1 NF r21 v20 f20 w20 g20 = 0) (h2 : (l2_20 ≤ 8)) (h3 : t41 = (v1 3) + l2_20) : gsY_X11_token_1_L20 NF v1 (n20 + 1) l2_20 v20 f20 w20 g20 = ((upd (upd v20 5 1) 3 t41), f20, w20, g20) := by
  subst h0 h3
  simp only [gsY_X11_token_1_L20, h1, if_pos h2, ite11, ite01, if_true, if_false]
theorem gsY_X11_token_1_q4 {NF : Nat} {v1 : Nat → Int32} {n20 : Nat} {l2_20 : Int32} {v20 : Nat → Int32} {f20 : Nat → Nat → Int32} {w20 : Int64} {g20 : Nat → Int64} {r21 : Int32} (h0 : r21 = gsY_X11_here_1 NF l2_20 v20 f20 w20 g20) (h1 : gsY_X11_isLetter_1 NF r21 v20 f20 w20 g20 = 0) (h2 : ¬ (l2_20 ≤ 8)) : gsY_X11_token_1_L20 NF v1 (n20 + 1) l2_20 v20 f20 w20 g20 = ((upd v20 5 3), f20, w20, g20) := by
  subst h0
  simp only [gsY_X11_token_1_L20, h1, if_neg h2, ite11, ite01, if_true, if_false]
theorem gsY_X11_token_1_q6 {NF : Nat} {v1 : Nat → Int32} {n47 : Nat} {l2_47 : Int32} {v47 : Nat → Int32} {f47 : Nat → Nat → Int32} {w47 : Int64} {g47 : Nat → Int64} {r48 : Int32} {t55 : Int32} (h0 : r48 = gsY_X11_here_1 NF l2_47 v47 f47 w47 g47) (h1 : gsY_X11_isDigit_1 NF r48 v47 f47 w47 g47 = 1) (h2 : (4 ≤ l2_47)) (h3 : t55 = l2_47 + 1) : gsY_X11_token_1_L47 NF v1 (n47 + 1) l2_47 v47 f47 w47 g47 = gsY_X11_token_1_L47 NF v1 n47 t55 v47 f47 w47 g47 := by
  subst h0 h3
  simp only [gsY_X11_token_1_L47, h1, if_pos h2, ite11, ite01, if_true, if_false]
theorem gsY_X11_token_1_q7 {NF : Nat} {v1 : Nat → Int32} {n47 : Nat} {l2_47 : Int32} {v47 : Nat → Int32} {f47 : Nat → Nat → Int32} {w47 : Int64} {g47 : Nat → Int64} {r48 : Int32} {t58 : Int32} {r59 : Int32} {t62 : Int32} {t63 : Int32} {t64 : Int32} (h0 : r48 = gsY_X11_here_1 NF l2_47 v47 f47 w47 g47) (h1 : gsY_X11_isDigit_1 NF r48 v47 f47 w47 g47 = 1) (h2 : ¬ (4 ≤ l2_47)) (h3 : t58 = 10 * (v47 7)) (h4 : r59 = gsY_X11_here_1 NF l2_47 v47 f47 w47 g47) (h5 : t62 = t58 + r59) (h6 : t63 = t62 - 48) (h7 : t64 = l2_47 + 1) : gsY_X11_token_1_L47 NF v1 (n47 + 1) l2_47 v47 f47 w47 g47 = gsY_X11_token_1_L47 NF v1 n47 t64 (upd v47 7 t63) f47 w47 g47 := by
  subst h0 h3 h4 h5 h6 h7
  simp only [gsY_X11_token_1_L47, h1, if_neg h2, ite11, ite01, if_true, if_false]
theorem gsY_X11_token_1_q8 {NF : Nat} {v1 : Nat → Int32} {n47 : Nat} {l2_47 : Int32} {v47 : Nat → Int32} {f47 : Nat → Nat → Int32} {w47 : Int64} {g47 : Nat → Int64} {r48 : Int32} (h0 : r48 = gsY_X11_here_1 NF l2_47 v47 f47 w47 g47) (h1 : gsY_X11_isDigit_1 NF r48 v47 f47 w47 g47 = 0) (h2 : (4 < l2_47)) : gsY_X11_token_1_L47 NF v1 (n47 + 1) l2_47 v47 f47 w47 g47 = ((upd v47 5 3), f47, w47, g47) := by
  subst h0
  simp only [gsY_X11_token_1_L47, h1, if_pos h2, ite11, ite01, if_true, if_false]
theorem gsY_X11_token_1_q9 {NF : Nat} {v1 : Nat → Int32} {n47 : Nat} {l2_47 : Int32} {v47 : Nat → Int32} {f47 : Nat → Nat → Int32} {w47 : Int64} {g47 : Nat → Int64} {r48 : Int32} {r68 : Int32} (h0 : r48 = gsY_X11_here_1 NF l2_47 v47 f47 w47 g47) (h1 : gsY_X11_isDigit_1 NF r48 v47 f47 w47 g47 = 0) (h2 : ¬ (4 < l2_47)) (h3 : r68 = gsY_X11_here_1 NF l2_47 v47 f47 w47 g47) (h4 : gsY_X11_isLetter_1 NF r68 v47 f47 w47 g47 = 1) : gsY_X11_token_1_L47 NF v1 (n47 + 1) l2_47 v47 f47 w47 g47 = ((upd v47 5 3), f47, w47, g47) := by
  subst h0 h3
  simp only [gsY_X11_token_1_L47, h1, if_neg h2, h4, ite11, ite01, if_true, if_false]
theorem gsY_X11_token_1_q10 {NF : Nat} {v1 : Nat → Int32} {n47 : Nat} {l2_47 : Int32} {v47 : Nat → Int32} {f47 : Nat → Nat → Int32} {w47 : Int64} {g47 : Nat → Int64} {r48 : Int32} {r68 : Int32} {t74 : Int32} (h0 : r48 = gsY_X11_here_1 NF l2_47 v47 f47 w47 g47) (h1 : gsY_X11_isDigit_1 NF r48 v47 f47 w47 g47 = 0) (h2 : ¬ (4 < l2_47)) (h3 : r68 = gsY_X11_here_1 NF l2_47 v47 f47 w47 g47) (h4 : gsY_X11_isLetter_1 NF r68 v47 f47 w47 g47 = 0) (h5 : t74 = (v1 3) + l2_47) : gsY_X11_token_1_L47 NF v1 (n47 + 1) l2_47 v47 f47 w47 g47 = ((upd (upd v47 5 2) 3 t74), f47, w47, g47) := by
  subst h0 h3 h5
  simp only [gsY_X11_token_1_L47, h1, if_neg h2, h4, ite11, ite01, if_true, if_false]
def gsY_X11_wrong_1 (NF : Nat) (p1 : Int32) (v : Nat → Int32) (f : Nat → Nat → Int32) (w : Int64) (g : Nat → Int64) : (Nat → Int32) × (Nat → Nat → Int32) × (Int64) × (Nat → Int64) :=
  if (v 1) ≤ 0 then
    if (v 5) = 3 then
      ((upd (upd v 1 1) 2 (v 6)), f, w, g)
    else
      ((upd (upd v 1 p1) 2 (v 6)), f, w, g)
  else
    (v, f, w, g)
theorem gsY_X11_wrong_1_q0 {NF : Nat} {p1 : Int32} {v : Nat → Int32} {f : Nat → Nat → Int32} {w : Int64} {g : Nat → Int64} (h0 : ((v 1) ≤ 0)) (h1 : ¬ ((v 5) = 3)) : gsY_X11_wrong_1 NF p1 v f w g = ((upd (upd v 1 p1) 2 (v 6)), f, w, g) := by
  simp only [gsY_X11_wrong_1, if_pos h0, if_neg h1]
theorem gsY_X11_wrong_1_q1 {NF : Nat} {p1 : Int32} {v : Nat → Int32} {f : Nat → Nat → Int32} {w : Int64} {g : Nat → Int64} (h0 : ((v 1) ≤ 0)) (h1 : ((v 5) = 3)) : gsY_X11_wrong_1 NF p1 v f w g = ((upd (upd v 1 1) 2 (v 6)), f, w, g) := by
  simp only [gsY_X11_wrong_1, if_pos h0, if_pos h1]
theorem gsY_X11_wrong_1_q2 {NF : Nat} {p1 : Int32} {v : Nat → Int32} {f : Nat → Nat → Int32} {w : Int64} {g : Nat → Int64} (h0 : ¬ ((v 1) ≤ 0)) : gsY_X11_wrong_1 NF p1 v f w g = (v, f, w, g) := by
  simp only [gsY_X11_wrong_1, if_neg h0]
def gsY_X11_isWord_1 (NF : Nat) (j1 : Int64) (v : Nat → Int32) (f : Nat → Nat → Int32) (w : Int64) (g : Nat → Int64) : Int32 :=
  if (v 5) = 1 then
    let t2 : Int32 := lg_cmp w j1
    if t2 = 0 then
      1
    else
      0
  else
    0
theorem gsY_X11_isWord_1_q0 {NF : Nat} {j1 : Int64} {v : Nat → Int32} {f : Nat → Nat → Int32} {w : Int64} {g : Nat → Int64} (h0 : ¬ ((v 5) = 1)) : gsY_X11_isWord_1 NF j1 v f w g = 0 := by
  simp only [gsY_X11_isWord_1, if_neg h0]
theorem gsY_X11_isWord_1_q1 {NF : Nat} {j1 : Int64} {v : Nat → Int32} {f : Nat → Nat → Int32} {w : Int64} {g : Nat → Int64} {t2 : Int32} (h0 : ((v 5) = 1)) (h1 : t2 = lg_cmp w j1) (h2 : ¬ (t2 = 0)) : gsY_X11_isWord_1 NF j1 v f w g = 0 := by
  subst h1
  simp only [gsY_X11_isWord_1, if_pos h0, if_neg h2]
theorem gsY_X11_isWord_1_q2 {NF : Nat} {j1 : Int64} {v : Nat → Int32} {f : Nat → Nat → Int32} {w : Int64} {g : Nat → Int64} {t2 : Int32} (h0 : ((v 5) = 1)) (h1 : t2 = lg_cmp w j1) (h2 : (t2 = 0)) : gsY_X11_isWord_1 NF j1 v f w g = 1 := by
  subst h1
  simp only [gsY_X11_isWord_1, if_pos h0, if_pos h2]
def gsY_X11_want_1 (NF : Nat) (j1 : Int64) (v : Nat → Int32) (f : Nat → Nat → Int32) (w : Int64) (g : Nat → Int64) : (Nat → Int32) × (Nat → Nat → Int32) × (Int64) × (Nat → Int64) :=
  if (v 1) ≤ 0 then
    if gsY_X11_isWord_1 NF j1 v f w g = 1 then
      match gsY_X11_token_1 NF v f w g with
      | (v6, f7, w8, g9) =>
        (v6, f7, w8, g9)
    else
      match gsY_X11_wrong_1 NF 2 v f w g with
      | (v16, f17, w18, g19) =>
        (v16, f17, w18, g19)
  else
    (v, f, w, g)
theorem gsY_X11_want_1_q0 {NF : Nat} {j1 : Int64} {v : Nat → Int32} {f : Nat → Nat → Int32} {w : Int64} {g : Nat → Int64} {v6 : Nat → Int32} {f7 : Nat → Nat → Int32} {w8 : Int64} {g9 : Nat → Int64} (h0 : ((v 1) ≤ 0)) (h1 : gsY_X11_isWord_1 NF j1 v f w g = 1) (h2 : gsY_X11_token_1 NF v f w g = (v6, f7, w8, g9)) : gsY_X11_want_1 NF j1 v f w g = (v6, f7, w8, g9) := by
  simp only [gsY_X11_want_1, if_pos h0, h1, h2, ite11, ite01, if_true, if_false]
theorem gsY_X11_want_1_q1 {NF : Nat} {j1 : Int64} {v : Nat → Int32} {f : Nat → Nat → Int32} {w : Int64} {g : Nat → Int64} {v16 : Nat → Int32} {f17 : Nat → Nat → Int32} {w18 : Int64} {g19 : Nat → Int64} (h0 : ((v 1) ≤ 0)) (h1 : gsY_X11_isWord_1 NF j1 v f w g = 0) (h2 : gsY_X11_wrong_1 NF 2 v f w g = (v16, f17, w18, g19)) : gsY_X11_want_1 NF j1 v f w g = (v16, f17, w18, g19) := by
  simp only [gsY_X11_want_1, if_pos h0, h1, h2, ite11, ite01, if_true, if_false]
theorem gsY_X11_want_1_q2 {NF : Nat} {j1 : Int64} {v : Nat → Int32} {f : Nat → Nat → Int32} {w : Int64} {g : Nat → Int64} (h0 : ¬ ((v 1) ≤ 0)) : gsY_X11_want_1 NF j1 v f w g = (v, f, w, g) := by
  simp only [gsY_X11_want_1, if_neg h0]
def gsY_X11_toldNumber_1 (NF : Nat) (p1 : Int32) (p2 : Int32) (v : Nat → Int32) (f : Nat → Nat → Int32) (w : Int64) (g : Nat → Int64) : Int32 × (Nat → Int32) × (Nat → Nat → Int32) × (Int64) × (Nat → Int64) :=
  if (v 1) ≤ 0 then
    if (v 5) = 2 then
      if (v 7) < p1 then
        match gsY_X11_wrong_1 NF 4 v f w g with
        | (v7, f8, w9, g10) =>
          if (v7 1) = 0 then
            match gsY_X11_token_1 NF v7 f8 w9 g10 with
            | (v19, f20, w21, g22) =>
              ((v7 7), v19, f20, w21, g22)
          else
            ((v7 7), v7, f8, w9, g10)
      else
        if (v 7) ≤ p2 then
          if (v 1) = 0 then
            match gsY_X11_token_1 NF v f w g with
            | (v34, f35, w36, g37) =>
              ((v 7), v34, f35, w36, g37)
          else
            ((v 7), v, f, w, g)
        else
          match gsY_X11_wrong_1 NF 4 v f w g with
          | (v45, f46, w47, g48) =>
            if (v45 1) = 0 then
              match gsY_X11_token_1 NF v45 f46 w47 g48 with
              | (v57, f58, w59, g60) =>
                ((v45 7), v57, f58, w59, g60)
            else
              ((v45 7), v45, f46, w47, g48)
    else
      match gsY_X11_wrong_1 NF 2 v f w g with
      | (v67, f68, w69, g70) =>
        if (v67 1) = 0 then
          match gsY_X11_token_1 NF v67 f68 w69 g70 with
          | (v79, f80, w81, g82) =>
            ((v67 7), v79, f80, w81, g82)
        else
          ((v67 7), v67, f68, w69, g70)
  else
    (0, v, f, w, g)
theorem gsY_X11_toldNumber_1_q0 {NF : Nat} {p1 : Int32} {p2 : Int32} {v : Nat → Int32} {f : Nat → Nat → Int32} {w : Int64} {g : Nat → Int64} {v7 : Nat → Int32} {f8 : Nat → Nat → Int32} {w9 : Int64} {g10 : Nat → Int64} (h0 : ((v 1) ≤ 0)) (h1 : ((v 5) = 2)) (h2 : ((v 7) < p1)) (h3 : gsY_X11_wrong_1 NF 4 v f w g = (v7, f8, w9, g10)) (h4 : ¬ ((v7 1) = 0)) : gsY_X11_toldNumber_1 NF p1 p2 v f w g = ((v7 7), v7, f8, w9, g10) := by
  simp only [gsY_X11_toldNumber_1, if_pos h0, if_pos h1, if_pos h2, h3, if_neg h4]
theorem gsY_X11_toldNumber_1_q1 {NF : Nat} {p1 : Int32} {p2 : Int32} {v : Nat → Int32} {f : Nat → Nat → Int32} {w : Int64} {g : Nat → Int64} {v7 : Nat → Int32} {f8 : Nat → Nat → Int32} {w9 : Int64} {g10 : Nat → Int64} {v19 : Nat → Int32} {f20 : Nat → Nat → Int32} {w21 : Int64} {g22 : Nat → Int64} (h0 : ((v 1) ≤ 0)) (h1 : ((v 5) = 2)) (h2 : ((v 7) < p1)) (h3 : gsY_X11_wrong_1 NF 4 v f w g = (v7, f8, w9, g10)) (h4 : ((v7 1) = 0)) (h5 : gsY_X11_token_1 NF v7 f8 w9 g10 = (v19, f20, w21, g22)) : gsY_X11_toldNumber_1 NF p1 p2 v f w g = ((v7 7), v19, f20, w21, g22) := by
  simp only [gsY_X11_toldNumber_1, if_pos h0, if_pos h1, if_pos h2, h3, if_pos h4, h5]
theorem gsY_X11_toldNumber_1_q2 {NF : Nat} {p1 : Int32} {p2 : Int32} {v : Nat → Int32} {f : Nat → Nat → Int32} {w : Int64} {g : Nat → Int64} (h0 : ((v 1) ≤ 0)) (h1 : ((v 5) = 2)) (h2 : ¬ ((v 7) < p1)) (h3 : ((v 7) ≤ p2)) (h4 : ¬ ((v 1) = 0)) : gsY_X11_toldNumber_1 NF p1 p2 v f w g = ((v 7), v, f, w, g) := by
  simp only [gsY_X11_toldNumber_1, if_pos h0, if_pos h1, if_neg h2, if_pos h3, if_neg h4]
theorem gsY_X11_toldNumber_1_q3 {NF : Nat} {p1 : Int32} {p2 : Int32} {v : Nat → Int32} {f : Nat → Nat → Int32} {w : Int64} {g : Nat → Int64} {v34 : Nat → Int32} {f35 : Nat → Nat → Int32} {w36 : Int64} {g37 : Nat → Int64} (h0 : ((v 1) ≤ 0)) (h1 : ((v 5) = 2)) (h2 : ¬ ((v 7) < p1)) (h3 : ((v 7) ≤ p2)) (h4 : ((v 1) = 0)) (h5 : gsY_X11_token_1 NF v f w g = (v34, f35, w36, g37)) : gsY_X11_toldNumber_1 NF p1 p2 v f w g = ((v 7), v34, f35, w36, g37) := by
  simp only [gsY_X11_toldNumber_1, if_pos h0, if_pos h1, if_neg h2, if_pos h3, if_pos h4, h5]
theorem gsY_X11_toldNumber_1_q4 {NF : Nat} {p1 : Int32} {p2 : Int32} {v : Nat → Int32} {f : Nat → Nat → Int32} {w : Int64} {g : Nat → Int64} {v45 : Nat → Int32} {f46 : Nat → Nat → Int32} {w47 : Int64} {g48 : Nat → Int64} (h0 : ((v 1) ≤ 0)) (h1 : ((v 5) = 2)) (h2 : ¬ ((v 7) < p1)) (h3 : ¬ ((v 7) ≤ p2)) (h4 : gsY_X11_wrong_1 NF 4 v f w g = (v45, f46, w47, g48)) (h5 : ¬ ((v45 1) = 0)) : gsY_X11_toldNumber_1 NF p1 p2 v f w g = ((v45 7), v45, f46, w47, g48) := by
  simp only [gsY_X11_toldNumber_1, if_pos h0, if_pos h1, if_neg h2, if_neg h3, h4, if_neg h5]
theorem gsY_X11_toldNumber_1_q5 {NF : Nat} {p1 : Int32} {p2 : Int32} {v : Nat → Int32} {f : Nat → Nat → Int32} {w : Int64} {g : Nat → Int64} {v45 : Nat → Int32} {f46 : Nat → Nat → Int32} {w47 : Int64} {g48 : Nat → Int64} {v57 : Nat → Int32} {f58 : Nat → Nat → Int32} {w59 : Int64} {g60 : Nat → Int64} (h0 : ((v 1) ≤ 0)) (h1 : ((v 5) = 2)) (h2 : ¬ ((v 7) < p1)) (h3 : ¬ ((v 7) ≤ p2)) (h4 : gsY_X11_wrong_1 NF 4 v f w g = (v45, f46, w47, g48)) (h5 : ((v45 1) = 0)) (h6 : gsY_X11_token_1 NF v45 f46 w47 g48 = (v57, f58, w59, g60)) : gsY_X11_toldNumber_1 NF p1 p2 v f w g = ((v45 7), v57, f58, w59, g60) := by
  simp only [gsY_X11_toldNumber_1, if_pos h0, if_pos h1, if_neg h2, if_neg h3, h4, if_pos h5, h6]
theorem gsY_X11_toldNumber_1_q6 {NF : Nat} {p1 : Int32} {p2 : Int32} {v : Nat → Int32} {f : Nat → Nat → Int32} {w : Int64} {g : Nat → Int64} {v67 : Nat → Int32} {f68 : Nat → Nat → Int32} {w69 : Int64} {g70 : Nat → Int64} (h0 : ((v 1) ≤ 0)) (h1 : ¬ ((v 5) = 2)) (h2 : gsY_X11_wrong_1 NF 2 v f w g = (v67, f68, w69, g70)) (h3 : ¬ ((v67 1) = 0)) : gsY_X11_toldNumber_1 NF p1 p2 v f w g = ((v67 7), v67, f68, w69, g70) := by
  simp only [gsY_X11_toldNumber_1, if_pos h0, if_neg h1, h2, if_neg h3]
theorem gsY_X11_toldNumber_1_q7 {NF : Nat} {p1 : Int32} {p2 : Int32} {v : Nat → Int32} {f : Nat → Nat → Int32} {w : Int64} {g : Nat → Int64} {v67 : Nat → Int32} {f68 : Nat → Nat → Int32} {w69 : Int64} {g70 : Nat → Int64} {v79 : Nat → Int32} {f80 : Nat → Nat → Int32} {w81 : Int64} {g82 : Nat → Int64} (h0 : ((v 1) ≤ 0)) (h1 : ¬ ((v 5) = 2)) (h2 : gsY_X11_wrong_1 NF 2 v f w g = (v67, f68, w69, g70)) (h3 : ((v67 1) = 0)) (h4 : gsY_X11_token_1 NF v67 f68 w69 g70 = (v79, f80, w81, g82)) : gsY_X11_toldNumber_1 NF p1 p2 v f w g = ((v67 7), v79, f80, w81, g82) := by
  simp only [gsY_X11_toldNumber_1, if_pos h0, if_neg h1, h2, if_pos h3, h4]
theorem gsY_X11_toldNumber_1_q8 {NF : Nat} {p1 : Int32} {p2 : Int32} {v : Nat → Int32} {f : Nat → Nat → Int32} {w : Int64} {g : Nat → Int64} (h0 : ¬ ((v 1) ≤ 0)) : gsY_X11_toldNumber_1 NF p1 p2 v f w g = (0, v, f, w, g) := by
  simp only [gsY_X11_toldNumber_1, if_neg h0]
def gsY_X11_told_1 (NF : Nat) (j1 : Int64) (p2 : Int32) (v : Nat → Int32) (f : Nat → Nat → Int32) (w : Int64) (g : Nat → Int64) : Int32 × (Nat → Int32) × (Nat → Nat → Int32) × (Int64) × (Nat → Int64) :=
  match gsY_X11_want_1 NF j1 v f w g with
  | (v2, f3, w4, g5) =>
    match gsY_X11_toldNumber_1 NF 0 p2 v2 f3 w4 g5 with
    | (r11, v13, f14, w15, g16) =>
      (r11, v13, f14, w15, g16)
theorem gsY_X11_told_1_q0 {NF : Nat} {j1 : Int64} {p2 : Int32} {v : Nat → Int32} {f : Nat → Nat → Int32} {w : Int64} {g : Nat → Int64} {v2 : Nat → Int32} {f3 : Nat → Nat → Int32} {w4 : Int64} {g5 : Nat → Int64} {r11 : Int32} {v13 : Nat → Int32} {f14 : Nat → Nat → Int32} {w15 : Int64} {g16 : Nat → Int64} (h0 : gsY_X11_want_1 NF j1 v f w g = (v2, f3, w4, g5)) (h1 : gsY_X11_toldNumber_1 NF 0 p2 v2 f3 w4 g5 = (r11, v13, f14, w15, g16)) : gsY_X11_told_1 NF j1 p2 v f w g = (r11, v13, f14, w15, g16) := by
  simp only [gsY_X11_told_1, h0, h1]
def gsY_X11_asked_1 (NF : Nat) (v : Nat → Int32) (f : Nat → Nat → Int32) (w : Int64) (g : Nat → Int64) : Int32 :=
  if (v 5) = 1 then
    let t2 : Int32 := lg_cmp w (499984590964 : Int64)
    if t2 = 0 then
      0
    else
      let t4 : Int32 := lg_cmp w (465726042981 : Int64)
      if t4 = 0 then
        1
      else
        let t6 : Int32 := lg_cmp w (495673373300 : Int64)
        if t6 = 0 then
          2
        else
          let t8 : Int32 := lg_cmp w (1819242087 : Int64)
          if t8 = 0 then
            3
          else
            let t10 : Int32 := lg_cmp w (2003792494 : Int64)
            if t10 = 0 then
              4
            else
              let t12 : Int32 := lg_cmp w (6578553 : Int64)
              if t12 = 0 then
                5
              else
                (-1)
  else
    (-1)
theorem gsY_X11_asked_1_q0 {NF : Nat} {v : Nat → Int32} {f : Nat → Nat → Int32} {w : Int64} {g : Nat → Int64} {t2 : Int32} {t4 : Int32} {t6 : Int32} {t8 : Int32} {t10 : Int32} {t12 : Int32} (h0 : ((v 5) = 1)) (h1 : t2 = lg_cmp w (499984590964 : Int64)) (h2 : ¬ (t2 = 0)) (h3 : t4 = lg_cmp w (465726042981 : Int64)) (h4 : ¬ (t4 = 0)) (h5 : t6 = lg_cmp w (495673373300 : Int64)) (h6 : ¬ (t6 = 0)) (h7 : t8 = lg_cmp w (1819242087 : Int64)) (h8 : ¬ (t8 = 0)) (h9 : t10 = lg_cmp w (2003792494 : Int64)) (h10 : ¬ (t10 = 0)) (h11 : t12 = lg_cmp w (6578553 : Int64)) (h12 : ¬ (t12 = 0)) : gsY_X11_asked_1 NF v f w g = (-1) := by
  subst h1 h3 h5 h7 h9 h11
  simp only [gsY_X11_asked_1, if_pos h0, if_neg h2, if_neg h4, if_neg h6, if_neg h8, if_neg h10, if_neg h12]
theorem gsY_X11_asked_1_q1 {NF : Nat} {v : Nat → Int32} {f : Nat → Nat → Int32} {w : Int64} {g : Nat → Int64} {t2 : Int32} {t4 : Int32} {t6 : Int32} {t8 : Int32} {t10 : Int32} {t12 : Int32} (h0 : ((v 5) = 1)) (h1 : t2 = lg_cmp w (499984590964 : Int64)) (h2 : ¬ (t2 = 0)) (h3 : t4 = lg_cmp w (465726042981 : Int64)) (h4 : ¬ (t4 = 0)) (h5 : t6 = lg_cmp w (495673373300 : Int64)) (h6 : ¬ (t6 = 0)) (h7 : t8 = lg_cmp w (1819242087 : Int64)) (h8 : ¬ (t8 = 0)) (h9 : t10 = lg_cmp w (2003792494 : Int64)) (h10 : ¬ (t10 = 0)) (h11 : t12 = lg_cmp w (6578553 : Int64)) (h12 : (t12 = 0)) : gsY_X11_asked_1 NF v f w g = 5 := by
  subst h1 h3 h5 h7 h9 h11
  simp only [gsY_X11_asked_1, if_pos h0, if_neg h2, if_neg h4, if_neg h6, if_neg h8, if_neg h10, if_pos h12]
theorem gsY_X11_asked_1_q2 {NF : Nat} {v : Nat → Int32} {f : Nat → Nat → Int32} {w : Int64} {g : Nat → Int64} {t2 : Int32} {t4 : Int32} {t6 : Int32} {t8 : Int32} {t10 : Int32} (h0 : ((v 5) = 1)) (h1 : t2 = lg_cmp w (499984590964 : Int64)) (h2 : ¬ (t2 = 0)) (h3 : t4 = lg_cmp w (465726042981 : Int64)) (h4 : ¬ (t4 = 0)) (h5 : t6 = lg_cmp w (495673373300 : Int64)) (h6 : ¬ (t6 = 0)) (h7 : t8 = lg_cmp w (1819242087 : Int64)) (h8 : ¬ (t8 = 0)) (h9 : t10 = lg_cmp w (2003792494 : Int64)) (h10 : (t10 = 0)) : gsY_X11_asked_1 NF v f w g = 4 := by
  subst h1 h3 h5 h7 h9
  simp only [gsY_X11_asked_1, if_pos h0, if_neg h2, if_neg h4, if_neg h6, if_neg h8, if_pos h10]
theorem gsY_X11_asked_1_q3 {NF : Nat} {v : Nat → Int32} {f : Nat → Nat → Int32} {w : Int64} {g : Nat → Int64} {t2 : Int32} {t4 : Int32} {t6 : Int32} {t8 : Int32} (h0 : ((v 5) = 1)) (h1 : t2 = lg_cmp w (499984590964 : Int64)) (h2 : ¬ (t2 = 0)) (h3 : t4 = lg_cmp w (465726042981 : Int64)) (h4 : ¬ (t4 = 0)) (h5 : t6 = lg_cmp w (495673373300 : Int64)) (h6 : ¬ (t6 = 0)) (h7 : t8 = lg_cmp w (1819242087 : Int64)) (h8 : (t8 = 0)) : gsY_X11_asked_1 NF v f w g = 3 := by
  subst h1 h3 h5 h7
  simp only [gsY_X11_asked_1, if_pos h0, if_neg h2, if_neg h4, if_neg h6, if_pos h8]
theorem gsY_X11_asked_1_q4 {NF : Nat} {v : Nat → Int32} {f : Nat → Nat → Int32} {w : Int64} {g : Nat → Int64} {t2 : Int32} {t4 : Int32} {t6 : Int32} (h0 : ((v 5) = 1)) (h1 : t2 = lg_cmp w (499984590964 : Int64)) (h2 : ¬ (t2 = 0)) (h3 : t4 = lg_cmp w (465726042981 : Int64)) (h4 : ¬ (t4 = 0)) (h5 : t6 = lg_cmp w (495673373300 : Int64)) (h6 : (t6 = 0)) : gsY_X11_asked_1 NF v f w g = 2 := by
  subst h1 h3 h5
  simp only [gsY_X11_asked_1, if_pos h0, if_neg h2, if_neg h4, if_pos h6]
theorem gsY_X11_asked_1_q5 {NF : Nat} {v : Nat → Int32} {f : Nat → Nat → Int32} {w : Int64} {g : Nat → Int64} {t2 : Int32} {t4 : Int32} (h0 : ((v 5) = 1)) (h1 : t2 = lg_cmp w (499984590964 : Int64)) (h2 : ¬ (t2 = 0)) (h3 : t4 = lg_cmp w (465726042981 : Int64)) (h4 : (t4 = 0)) : gsY_X11_asked_1 NF v f w g = 1 := by
  subst h1 h3
  simp only [gsY_X11_asked_1, if_pos h0, if_neg h2, if_pos h4]
theorem gsY_X11_asked_1_q6 {NF : Nat} {v : Nat → Int32} {f : Nat → Nat → Int32} {w : Int64} {g : Nat → Int64} {t2 : Int32} (h0 : ((v 5) = 1)) (h1 : t2 = lg_cmp w (499984590964 : Int64)) (h2 : (t2 = 0)) : gsY_X11_asked_1 NF v f w g = 0 := by
  subst h1
  simp only [gsY_X11_asked_1, if_pos h0, if_pos h2]
theorem gsY_X11_asked_1_q7 {NF : Nat} {v : Nat → Int32} {f : Nat → Nat → Int32} {w : Int64} {g : Nat → Int64} (h0 : ¬ ((v 5) = 1)) : gsY_X11_asked_1 NF v f w g = (-1) := by
  simp only [gsY_X11_asked_1, if_neg h0]
def gsY_X11_countUnit_1 (NF : Nat) (v : Nat → Int32) (f : Nat → Nat → Int32) (w : Int64) (g : Nat → Int64) : (Nat → Int32) × (Nat → Nat → Int32) × (Int64) × (Nat → Int64) :=
  let t1 : Int32 := (v 11) + 1
  let t2 : Int32 := (v 13) + 1
  ((upd (upd v 11 t1) 13 t2), f, w, g)
theorem gsY_X11_countUnit_1_q0 {NF : Nat} {v : Nat → Int32} {f : Nat → Nat → Int32} {w : Int64} {g : Nat → Int64} {t1 : Int32} {t2 : Int32} (h0 : t1 = (v 11) + 1) (h1 : t2 = (v 13) + 1) : gsY_X11_countUnit_1 NF v f w g = ((upd (upd v 11 t1) 13 t2), f, w, g) := by
  subst h0 h1
  simp only [gsY_X11_countUnit_1]
def gsY_X11_add_1 (NF : Nat) (p1 : Int32) (p2 : Int32) (v : Nat → Int32) (f : Nat → Nat → Int32) (w : Int64) (g : Nat → Int64) : (Nat → Int32) × (Nat → Nat → Int32) × (Int64) × (Nat → Int64) :=
  let f1 : Nat → Nat → Int32 := upd2 f 2 (upd (f 2) (v 8).toNatClampNeg p1)
  let f2 : Nat → Nat → Int32 := upd2 f1 3 (upd (f1 3) (v 8).toNatClampNeg p2)
  let t3 : Int32 := (v 8) + 1
  ((upd v 8 t3), f2, w, g)
theorem gsY_X11_add_1_q0 {NF : Nat} {p1 : Int32} {p2 : Int32} {v : Nat → Int32} {f : Nat → Nat → Int32} {w : Int64} {g : Nat → Int64} {f1 : Nat → Nat → Int32} {f2 : Nat → Nat → Int32} {t3 : Int32} (h0 : f1 = upd2 f 2 (upd (f 2) (v 8).toNatClampNeg p1)) (h1 : f2 = upd2 f1 3 (upd (f1 3) (v 8).toNatClampNeg p2)) (h2 : t3 = (v 8) + 1) : gsY_X11_add_1 NF p1 p2 v f w g = ((upd v 8 t3), f2, w, g) := by
  subst h0 h1 h2
  simp only [gsY_X11_add_1]
def gsY_X11_isFull_1 (NF : Nat) (v : Nat → Int32) (f : Nat → Nat → Int32) (w : Int64) (g : Nat → Int64) : Int32 :=
  if (v 11) = 60 then
    1
  else
    if (v 13) = 30 then
      1
    else
      0
theorem gsY_X11_isFull_1_q0 {NF : Nat} {v : Nat → Int32} {f : Nat → Nat → Int32} {w : Int64} {g : Nat → Int64} (h0 : ((v 11) = 60)) : gsY_X11_isFull_1 NF v f w g = 1 := by
  simp only [gsY_X11_isFull_1, if_pos h0]
theorem gsY_X11_isFull_1_q1 {NF : Nat} {v : Nat → Int32} {f : Nat → Nat → Int32} {w : Int64} {g : Nat → Int64} (h0 : ¬ ((v 11) = 60)) (h1 : ¬ ((v 13) = 30)) : gsY_X11_isFull_1 NF v f w g = 0 := by
  simp only [gsY_X11_isFull_1, if_neg h0, if_neg h1]
theorem gsY_X11_isFull_1_q2 {NF : Nat} {v : Nat → Int32} {f : Nat → Nat → Int32} {w : Int64} {g : Nat → Int64} (h0 : ¬ ((v 11) = 60)) (h1 : ((v 13) = 30)) : gsY_X11_isFull_1 NF v f w g = 1 := by
  simp only [gsY_X11_isFull_1, if_neg h0, if_pos h1]
def gsY_X11_openUp_1 (NF : Nat) (p1 : Int32) (v : Nat → Int32) (f : Nat → Nat → Int32) (w : Int64) (g : Nat → Int64) : (Nat → Int32) × (Nat → Nat → Int32) × (Int64) × (Nat → Int64) :=
  let f1 : Nat → Nat → Int32 := upd2 f 6 (upd (f 6) (v 10).toNatClampNeg p1)
  let t2 : Int32 := (v 10) + 1
  let t4 : Int32 := (v 14) + 1
  if (v 1) = 0 then
    match gsY_X11_token_1 NF (upd (upd v 10 t2) 14 t4) f1 w g with
    | (v8, f9, w10, g11) =>
      (v8, f9, w10, g11)
  else
    ((upd (upd v 10 t2) 14 t4), f1, w, g)
theorem gsY_X11_openUp_1_q0 {NF : Nat} {p1 : Int32} {v : Nat → Int32} {f : Nat → Nat → Int32} {w : Int64} {g : Nat → Int64} {f1 : Nat → Nat → Int32} {t2 : Int32} {t4 : Int32} (h0 : f1 = upd2 f 6 (upd (f 6) (v 10).toNatClampNeg p1)) (h1 : t2 = (v 10) + 1) (h2 : t4 = (v 14) + 1) (h3 : ¬ ((v 1) = 0)) : gsY_X11_openUp_1 NF p1 v f w g = ((upd (upd v 10 t2) 14 t4), f1, w, g) := by
  subst h0 h1 h2
  simp only [gsY_X11_openUp_1, if_neg h3]
theorem gsY_X11_openUp_1_q1 {NF : Nat} {p1 : Int32} {v : Nat → Int32} {f : Nat → Nat → Int32} {w : Int64} {g : Nat → Int64} {f1 : Nat → Nat → Int32} {t2 : Int32} {t4 : Int32} {v8 : Nat → Int32} {f9 : Nat → Nat → Int32} {w10 : Int64} {g11 : Nat → Int64} (h0 : f1 = upd2 f 6 (upd (f 6) (v 10).toNatClampNeg p1)) (h1 : t2 = (v 10) + 1) (h2 : t4 = (v 14) + 1) (h3 : ((v 1) = 0)) (h4 : gsY_X11_token_1 NF (upd (upd v 10 t2) 14 t4) f1 w g = (v8, f9, w10, g11)) : gsY_X11_openUp_1 NF p1 v f w g = (v8, f9, w10, g11) := by
  subst h0 h1 h2
  simp only [gsY_X11_openUp_1, if_pos h3, h4]
def gsY_X11_tight_1 (NF : Nat) (p0 : Int32) (v : Nat → Int32) (f : Nat → Nat → Int32) (w : Int64) (g : Nat → Int64) : Int32 :=
  if p0 = 21 then
    3
  else
    if p0 = 38 then
      2
    else
      if p0 = 43 then
        5
      else
        if p0 = 45 then
          5
        else
          if p0 = 60 then
            4
          else
            if p0 = 61 then
              4
            else
              if p0 = 62 then
                4
              else
                if p0 = 124 then
                  1
                else
                  6
theorem gsY_X11_tight_1_q0 {NF : Nat} {p0 : Int32} {v : Nat → Int32} {f : Nat → Nat → Int32} {w : Int64} {g : Nat → Int64} (h0 : (p0 = 21)) : gsY_X11_tight_1 NF p0 v f w g = 3 := by
  simp only [gsY_X11_tight_1, if_pos h0]
theorem gsY_X11_tight_1_q1 {NF : Nat} {p0 : Int32} {v : Nat → Int32} {f : Nat → Nat → Int32} {w : Int64} {g : Nat → Int64} (h0 : ¬ (p0 = 21)) (h1 : (p0 = 38)) : gsY_X11_tight_1 NF p0 v f w g = 2 := by
  simp only [gsY_X11_tight_1, if_neg h0, if_pos h1]
theorem gsY_X11_tight_1_q2 {NF : Nat} {p0 : Int32} {v : Nat → Int32} {f : Nat → Nat → Int32} {w : Int64} {g : Nat → Int64} (h0 : ¬ (p0 = 21)) (h1 : ¬ (p0 = 38)) (h2 : (p0 = 43)) : gsY_X11_tight_1 NF p0 v f w g = 5 := by
  simp only [gsY_X11_tight_1, if_neg h0, if_neg h1, if_pos h2]
theorem gsY_X11_tight_1_q3 {NF : Nat} {p0 : Int32} {v : Nat → Int32} {f : Nat → Nat → Int32} {w : Int64} {g : Nat → Int64} (h0 : ¬ (p0 = 21)) (h1 : ¬ (p0 = 38)) (h2 : ¬ (p0 = 43)) (h3 : (p0 = 45)) : gsY_X11_tight_1 NF p0 v f w g = 5 := by
  simp only [gsY_X11_tight_1, if_neg h0, if_neg h1, if_neg h2, if_pos h3]
theorem gsY_X11_tight_1_q4 {NF : Nat} {p0 : Int32} {v : Nat → Int32} {f : Nat → Nat → Int32} {w : Int64} {g : Nat → Int64} (h0 : ¬ (p0 = 21)) (h1 : ¬ (p0 = 38)) (h2 : ¬ (p0 = 43)) (h3 : ¬ (p0 = 45)) (h4 : (p0 = 60)) : gsY_X11_tight_1 NF p0 v f w g = 4 := by
  simp only [gsY_X11_tight_1, if_neg h0, if_neg h1, if_neg h2, if_neg h3, if_pos h4]
theorem gsY_X11_tight_1_q5 {NF : Nat} {p0 : Int32} {v : Nat → Int32} {f : Nat → Nat → Int32} {w : Int64} {g : Nat → Int64} (h0 : ¬ (p0 = 21)) (h1 : ¬ (p0 = 38)) (h2 : ¬ (p0 = 43)) (h3 : ¬ (p0 = 45)) (h4 : ¬ (p0 = 60)) (h5 : (p0 = 61)) : gsY_X11_tight_1 NF p0 v f w g = 4 := by
  simp only [gsY_X11_tight_1, if_neg h0, if_neg h1, if_neg h2, if_neg h3, if_neg h4, if_pos h5]
theorem gsY_X11_tight_1_q6 {NF : Nat} {p0 : Int32} {v : Nat → Int32} {f : Nat → Nat → Int32} {w : Int64} {g : Nat → Int64} (h0 : ¬ (p0 = 21)) (h1 : ¬ (p0 = 38)) (h2 : ¬ (p0 = 43)) (h3 : ¬ (p0 = 45)) (h4 : ¬ (p0 = 60)) (h5 : ¬ (p0 = 61)) (h6 : (p0 = 62)) : gsY_X11_tight_1 NF p0 v f w g = 4 := by
  simp only [gsY_X11_tight_1, if_neg h0, if_neg h1, if_neg h2, if_neg h3, if_neg h4, if_neg h5, if_pos h6]
theorem gsY_X11_tight_1_q7 {NF : Nat} {p0 : Int32} {v : Nat → Int32} {f : Nat → Nat → Int32} {w : Int64} {g : Nat → Int64} (h0 : ¬ (p0 = 21)) (h1 : ¬ (p0 = 38)) (h2 : ¬ (p0 = 43)) (h3 : ¬ (p0 = 45)) (h4 : ¬ (p0 = 60)) (h5 : ¬ (p0 = 61)) (h6 : ¬ (p0 = 62)) (h7 : (p0 = 124)) : gsY_X11_tight_1 NF p0 v f w g = 1 := by
  simp only [gsY_X11_tight_1, if_neg h0, if_neg h1, if_neg h2, if_neg h3, if_neg h4, if_neg h5, if_neg h6, if_pos h7]
theorem gsY_X11_tight_1_q8 {NF : Nat} {p0 : Int32} {v : Nat → Int32} {f : Nat → Nat → Int32} {w : Int64} {g : Nat → Int64} (h0 : ¬ (p0 = 21)) (h1 : ¬ (p0 = 38)) (h2 : ¬ (p0 = 43)) (h3 : ¬ (p0 = 45)) (h4 : ¬ (p0 = 60)) (h5 : ¬ (p0 = 61)) (h6 : ¬ (p0 = 62)) (h7 : ¬ (p0 = 124)) : gsY_X11_tight_1 NF p0 v f w g = 6 := by
  simp only [gsY_X11_tight_1, if_neg h0, if_neg h1, if_neg h2, if_neg h3, if_neg h4, if_neg h5, if_neg h6, if_neg h7]
def gsY_X11_mayNot_1 (NF : Nat) (v : Nat → Int32) (f : Nat → Nat → Int32) (w : Int64) (g : Nat → Int64) : Int32 :=
  if (v 10) = 0 then
    1
  else
    let t2 : Int32 := (v 10) - 1
    let t4 : Int32 := f 6 (t2).toNatClampNeg
    if t4 = 20 then
      1
    else
      let r6 : Int32 := gsY_X11_tight_1 NF t4 v f w g
      if 4 ≤ r6 then
        0
      else
        1
theorem gsY_X11_mayNot_1_q0 {NF : Nat} {v : Nat → Int32} {f : Nat → Nat → Int32} {w : Int64} {g : Nat → Int64} (h0 : ((v 10) = 0)) : gsY_X11_mayNot_1 NF v f w g = 1 := by
  simp only [gsY_X11_mayNot_1, if_pos h0]
theorem gsY_X11_mayNot_1_q1 {NF : Nat} {v : Nat → Int32} {f : Nat → Nat → Int32} {w : Int64} {g : Nat → Int64} {t2 : Int32} {t4 : Int32} (h0 : ¬ ((v 10) = 0)) (h1 : t2 = (v 10) - 1) (h2 : t4 = f 6 (t2).toNatClampNeg) (h3 : (t4 = 20)) : gsY_X11_mayNot_1 NF v f w g = 1 := by
  subst h1 h2
  simp only [gsY_X11_mayNot_1, if_neg h0, if_pos h3]
theorem gsY_X11_mayNot_1_q2 {NF : Nat} {v : Nat → Int32} {f : Nat → Nat → Int32} {w : Int64} {g : Nat → Int64} {t2 : Int32} {t4 : Int32} {r6 : Int32} (h0 : ¬ ((v 10) = 0)) (h1 : t2 = (v 10) - 1) (h2 : t4 = f 6 (t2).toNatClampNeg) (h3 : ¬ (t4 = 20)) (h4 : r6 = gsY_X11_tight_1 NF t4 v f w g) (h5 : (4 ≤ r6)) : gsY_X11_mayNot_1 NF v f w g = 0 := by
  subst h1 h2 h4
  simp only [gsY_X11_mayNot_1, if_neg h0, if_neg h3, if_pos h5]
theorem gsY_X11_mayNot_1_q3 {NF : Nat} {v : Nat → Int32} {f : Nat → Nat → Int32} {w : Int64} {g : Nat → Int64} {t2 : Int32} {t4 : Int32} {r6 : Int32} (h0 : ¬ ((v 10) = 0)) (h1 : t2 = (v 10) - 1) (h2 : t4 = f 6 (t2).toNatClampNeg) (h3 : ¬ (t4 = 20)) (h4 : r6 = gsY_X11_tight_1 NF t4 v f w g) (h5 : ¬ (4 ≤ r6)) : gsY_X11_mayNot_1 NF v f w g = 1 := by
  subst h1 h2 h4
  simp only [gsY_X11_mayNot_1, if_neg h0, if_neg h3, if_neg h5]
def gsY_X11_unit_1_J6 (NF : Nat) (f1 : Nat → Nat → Int32) (g1 : Nat → Int64) (v1 : Nat → Int32) (w1 : Int64) (r4 : Int32) : (Nat → Int32) × (Nat → Nat → Int32) × (Int64) × (Nat → Int64) :=
  match gsY_X11_wrong_1 NF 2 v1 f1 w1 g1 with
  | (v8, f9, w10, g11) =>
    if (v8 1) ≤ 0 then
      match gsY_X11_countUnit_1 NF v8 f9 w10 g11 with
      | (v20, f21, w22, g23) =>
        if 0 ≤ r4 then
          if 0 ≤ r4 then
            match gsY_X11_add_1 NF 1 r4 v20 f21 w22 g23 with
            | (v31, f32, w33, g34) =>
              match gsY_X11_token_1 NF v31 f32 w33 g34 with
              | (v40, f41, w42, g43) =>
                (v40, f41, w42, g43)
          else
            match gsY_X11_add_1 NF 1 (v20 7) v20 f21 w22 g23 with
            | (v50, f51, w52, g53) =>
              match gsY_X11_token_1 NF v50 f51 w52 g53 with
              | (v59, f60, w61, g62) =>
                (v59, f60, w61, g62)
        else
          if 0 ≤ r4 then
            match gsY_X11_add_1 NF 0 r4 v20 f21 w22 g23 with
            | (v70, f71, w72, g73) =>
              match gsY_X11_token_1 NF v70 f71 w72 g73 with
              | (v79, f80, w81, g82) =>
                (v79, f80, w81, g82)
          else
            match gsY_X11_add_1 NF 0 (v20 7) v20 f21 w22 g23 with
            | (v89, f90, w91, g92) =>
              match gsY_X11_token_1 NF v89 f90 w91 g92 with
              | (v98, f99, w100, g101) =>
                (v98, f99, w100, g101)
    else
      (v8, f9, w10, g11)
def gsY_X11_unit_1_J107 (NF : Nat) (f1 : Nat → Nat → Int32) (g1 : Nat → Int64) (v1 : Nat → Int32) (w1 : Int64) (r4 : Int32) : (Nat → Int32) × (Nat → Nat → Int32) × (Int64) × (Nat → Int64) :=
  if gsY_X11_isFull_1 NF v1 f1 w1 g1 = 1 then
    gsY_X11_unit_1_J6 NF f1 g1 v1 w1 r4
  else
    if (v1 1) ≤ 0 then
      match gsY_X11_countUnit_1 NF v1 f1 w1 g1 with
      | (v113, f114, w115, g116) =>
        if 0 ≤ r4 then
          if 0 ≤ r4 then
            match gsY_X11_add_1 NF 1 r4 v113 f114 w115 g116 with
            | (v124, f125, w126, g127) =>
              match gsY_X11_token_1 NF v124 f125 w126 g127 with
              | (v133, f134, w135, g136) =>
                (v133, f134, w135, g136)
          else
            match gsY_X11_add_1 NF 1 (v113 7) v113 f114 w115 g116 with
            | (v143, f144, w145, g146) =>
              match gsY_X11_token_1 NF v143 f144 w145 g146 with
              | (v152, f153, w154, g155) =>
                (v152, f153, w154, g155)
        else
          if 0 ≤ r4 then
            match gsY_X11_add_1 NF 0 r4 v113 f114 w115 g116 with
            | (v163, f164, w165, g166) =>
              match gsY_X11_token_1 NF v163 f164 w165 g166 with
              | (v172, f173, w174, g175) =>
                (v172, f173, w174, g175)
          else
            match gsY_X11_add_1 NF 0 (v113 7) v113 f114 w115 g116 with
            | (v182, f183, w184, g185) =>
              match gsY_X11_token_1 NF v182 f183 w184 g185 with
              | (v191, f192, w193, g194) =>
                (v191, f192, w193, g194)
    else
      (v1, f1, w1, g1)
def gsY_X11_unit_1_J2 (NF : Nat) (f1 : Nat → Nat → Int32) (g1 : Nat → Int64) (v1 : Nat → Int32) (w1 : Int64) : (Nat → Int32) × (Nat → Nat → Int32) × (Int64) × (Nat → Int64) :=
  if (v1 1) ≤ 0 then
    let r4 : Int32 := gsY_X11_asked_1 NF v1 f1 w1 g1
    if (v1 5) = 2 then
      gsY_X11_unit_1_J107 NF f1 g1 v1 w1 r4
    else
      if r4 < 0 then
        gsY_X11_unit_1_J6 NF f1 g1 v1 w1 r4
      else
        gsY_X11_unit_1_J107 NF f1 g1 v1 w1 r4
  else
    (v1, f1, w1, g1)
def gsY_X11_unit_1_J204 (NF : Nat) (f1 : Nat → Nat → Int32) (g1 : Nat → Int64) (l1_1 : Int32) (v1 : Nat → Int32) (w1 : Int64) (k1 : Int32 → (Nat → Int32) → (Nat → Nat → Int32) → Int64 → (Nat → Int64) → ((Nat → Int32) × (Nat → Nat → Int32) × (Int64) × (Nat → Int64))) : (Nat → Int32) × (Nat → Nat → Int32) × (Int64) × (Nat → Int64) :=
  if (v1 5) = 40 then
    if gsY_X11_isFull_1 NF v1 f1 w1 g1 = 1 then
      match gsY_X11_wrong_1 NF 2 v1 f1 w1 g1 with
      | (v210, f211, w212, g213) =>
        match gsY_X11_countUnit_1 NF v210 f211 w212 g213 with
        | (v221, f222, w223, g224) =>
          match gsY_X11_openUp_1 NF 20 v221 f222 w223 g224 with
          | (v230, f231, w232, g233) =>
            k1 l1_1 v230 f231 w232 g233
    else
      if (v1 14) ≤ 6 then
        match gsY_X11_countUnit_1 NF v1 f1 w1 g1 with
        | (v243, f244, w245, g246) =>
          match gsY_X11_openUp_1 NF 20 v243 f244 w245 g246 with
          | (v252, f253, w254, g255) =>
            k1 l1_1 v252 f253 w254 g255
      else
        match gsY_X11_wrong_1 NF 2 v1 f1 w1 g1 with
        | (v264, f265, w266, g267) =>
          match gsY_X11_countUnit_1 NF v264 f265 w266 g267 with
          | (v275, f276, w277, g278) =>
            match gsY_X11_openUp_1 NF 20 v275 f276 w277 g278 with
            | (v284, f285, w286, g287) =>
              k1 l1_1 v284 f285 w286 g287
  else
    k1 0 v1 f1 w1 g1
def gsY_X11_unit_1_L1 (NF : Nat) : Nat → (Int32) → (Nat → Int32) → (Nat → Nat → Int32) → (Int64) → (Nat → Int64) → (Nat → Int32) × (Nat → Nat → Int32) × (Int64) × (Nat → Int64)
  | 0, _, _, _, _, _ => ((fun _ => 0), (fun _ _ => 0), 0, (fun _ => 0))
  | n1 + 1, l1_1, v1, f1, w1, g1 =>
    if l1_1 = 0 then
      gsY_X11_unit_1_J2 NF f1 g1 v1 w1
    else
      if (v1 1) = 0 then
        if gsY_X11_isWord_1 NF (7237492 : Int64) v1 f1 w1 g1 = 1 then
          if gsY_X11_mayNot_1 NF v1 f1 w1 g1 = 1 then
            if (v1 14) ≤ 6 then
              match gsY_X11_openUp_1 NF 21 v1 f1 w1 g1 with
              | (v303, f304, w305, g306) =>
                gsY_X11_unit_1_L1 NF n1 l1_1 v303 f304 w305 g306
            else
              match gsY_X11_wrong_1 NF 2 v1 f1 w1 g1 with
              | (v315, f316, w317, g318) =>
                match gsY_X11_openUp_1 NF 21 v315 f316 w317 g318 with
                | (v326, f327, w328, g329) =>
                  gsY_X11_unit_1_L1 NF n1 l1_1 v326 f327 w328 g329
          else
            gsY_X11_unit_1_J204 NF f1 g1 l1_1 v1 w1 (fun z0 z1 z2 z3 z4 => gsY_X11_unit_1_L1 NF n1 z0 z1 z2 z3 z4)
        else
          gsY_X11_unit_1_J204 NF f1 g1 l1_1 v1 w1 (fun z0 z1 z2 z3 z4 => gsY_X11_unit_1_L1 NF n1 z0 z1 z2 z3 z4)
      else
        gsY_X11_unit_1_J2 NF f1 g1 v1 w1
def gsY_X11_unit_1 (NF : Nat) (v : Nat → Int32) (f : Nat → Nat → Int32) (w : Int64) (g : Nat → Int64) : (Nat → Int32) × (Nat → Nat → Int32) × (Int64) × (Nat → Int64) :=
  gsY_X11_unit_1_L1 NF (4294967296 + NF) 1 v f w g
theorem gsY_X11_unit_1_q25 {NF : Nat} {v : Nat → Int32} {f : Nat → Nat → Int32} {w : Int64} {g : Nat → Int64}  : gsY_X11_unit_1 NF v f w g = gsY_X11_unit_1_L1 NF (4294967296 + NF) 1 v f w g := by
  simp only [gsY_X11_unit_1]
theorem gsY_X11_unit_1_q15 {NF : Nat} {n1 : Nat} {l1_1 : Int32} {v1 : Nat → Int32} {f1 : Nat → Nat → Int32} {w1 : Int64} {g1 : Nat → Int64} (h0 : (l1_1 = 0)) : gsY_X11_unit_1_L1 NF (n1 + 1) l1_1 v1 f1 w1 g1 = gsY_X11_unit_1_J2 NF f1 g1 v1 w1 := by
  simp only [gsY_X11_unit_1_L1, if_pos h0]
theorem gsY_X11_unit_1_q16 {NF : Nat} {n1 : Nat} {l1_1 : Int32} {v1 : Nat → Int32} {f1 : Nat → Nat → Int32} {w1 : Int64} {g1 : Nat → Int64} (h0 : ¬ (l1_1 = 0)) (h1 : ¬ ((v1 1) = 0)) : gsY_X11_unit_1_L1 NF (n1 + 1) l1_1 v1 f1 w1 g1 = gsY_X11_unit_1_J2 NF f1 g1 v1 w1 := by
  simp only [gsY_X11_unit_1_L1, if_neg h0, if_neg h1]
theorem gsY_X11_unit_1_q21 {NF : Nat} {n1 : Nat} {l1_1 : Int32} {v1 : Nat → Int32} {f1 : Nat → Nat → Int32} {w1 : Int64} {g1 : Nat → Int64} {v303 : Nat → Int32} {f304 : Nat → Nat → Int32} {w305 : Int64} {g306 : Nat → Int64} (h0 : ¬ (l1_1 = 0)) (h1 : ((v1 1) = 0)) (h2 : gsY_X11_isWord_1 NF (7237492 : Int64) v1 f1 w1 g1 = 1) (h3 : gsY_X11_mayNot_1 NF v1 f1 w1 g1 = 1) (h4 : ((v1 14) ≤ 6)) (h5 : gsY_X11_openUp_1 NF 21 v1 f1 w1 g1 = (v303, f304, w305, g306)) : gsY_X11_unit_1_L1 NF (n1 + 1) l1_1 v1 f1 w1 g1 = gsY_X11_unit_1_L1 NF n1 l1_1 v303 f304 w305 g306 := by
  simp only [gsY_X11_unit_1_L1, if_neg h0, if_pos h1, h2, h3, if_pos h4, h5, ite11, ite01, if_true, if_false]
theorem gsY_X11_unit_1_q22 {NF : Nat} {n1 : Nat} {l1_1 : Int32} {v1 : Nat → Int32} {f1 : Nat → Nat → Int32} {w1 : Int64} {g1 : Nat → Int64} {v315 : Nat → Int32} {f316 : Nat → Nat → Int32} {w317 : Int64} {g318 : Nat → Int64} {v326 : Nat → Int32} {f327 : Nat → Nat → Int32} {w328 : Int64} {g329 : Nat → Int64} (h0 : ¬ (l1_1 = 0)) (h1 : ((v1 1) = 0)) (h2 : gsY_X11_isWord_1 NF (7237492 : Int64) v1 f1 w1 g1 = 1) (h3 : gsY_X11_mayNot_1 NF v1 f1 w1 g1 = 1) (h4 : ¬ ((v1 14) ≤ 6)) (h5 : gsY_X11_wrong_1 NF 2 v1 f1 w1 g1 = (v315, f316, w317, g318)) (h6 : gsY_X11_openUp_1 NF 21 v315 f316 w317 g318 = (v326, f327, w328, g329)) : gsY_X11_unit_1_L1 NF (n1 + 1) l1_1 v1 f1 w1 g1 = gsY_X11_unit_1_L1 NF n1 l1_1 v326 f327 w328 g329 := by
  simp only [gsY_X11_unit_1_L1, if_neg h0, if_pos h1, h2, h3, if_neg h4, h5, h6, ite11, ite01, if_true, if_false]
theorem gsY_X11_unit_1_q23 {NF : Nat} {n1 : Nat} {l1_1 : Int32} {v1 : Nat → Int32} {f1 : Nat → Nat → Int32} {w1 : Int64} {g1 : Nat → Int64} (h0 : ¬ (l1_1 = 0)) (h1 : ((v1 1) = 0)) (h2 : gsY_X11_isWord_1 NF (7237492 : Int64) v1 f1 w1 g1 = 1) (h3 : gsY_X11_mayNot_1 NF v1 f1 w1 g1 = 0) : gsY_X11_unit_1_L1 NF (n1 + 1) l1_1 v1 f1 w1 g1 = gsY_X11_unit_1_J204 NF f1 g1 l1_1 v1 w1 (fun z0 z1 z2 z3 z4 => gsY_X11_unit_1_L1 NF n1 z0 z1 z2 z3 z4) := by
  simp only [gsY_X11_unit_1_L1, if_neg h0, if_pos h1, h2, h3, ite11, ite01, if_true, if_false]
theorem gsY_X11_unit_1_q24 {NF : Nat} {n1 : Nat} {l1_1 : Int32} {v1 : Nat → Int32} {f1 : Nat → Nat → Int32} {w1 : Int64} {g1 : Nat → Int64} (h0 : ¬ (l1_1 = 0)) (h1 : ((v1 1) = 0)) (h2 : gsY_X11_isWord_1 NF (7237492 : Int64) v1 f1 w1 g1 = 0) : gsY_X11_unit_1_L1 NF (n1 + 1) l1_1 v1 f1 w1 g1 = gsY_X11_unit_1_J204 NF f1 g1 l1_1 v1 w1 (fun z0 z1 z2 z3 z4 => gsY_X11_unit_1_L1 NF n1 z0 z1 z2 z3 z4) := by
  simp only [gsY_X11_unit_1_L1, if_neg h0, if_pos h1, h2, ite11, ite01, if_true, if_false]
theorem gsY_X11_unit_1_q11 {NF : Nat} {f1 : Nat → Nat → Int32} {g1 : Nat → Int64} {v1 : Nat → Int32} {w1 : Int64} {r4 : Int32} (h0 : ((v1 1) ≤ 0)) (h1 : r4 = gsY_X11_asked_1 NF v1 f1 w1 g1) (h2 : ((v1 5) = 2)) : gsY_X11_unit_1_J2 NF f1 g1 v1 w1 = gsY_X11_unit_1_J107 NF f1 g1 v1 w1 r4 := by
  subst h1
  simp only [gsY_X11_unit_1_J2, if_pos h0, if_pos h2]
theorem gsY_X11_unit_1_q12 {NF : Nat} {f1 : Nat → Nat → Int32} {g1 : Nat → Int64} {v1 : Nat → Int32} {w1 : Int64} {r4 : Int32} (h0 : ((v1 1) ≤ 0)) (h1 : r4 = gsY_X11_asked_1 NF v1 f1 w1 g1) (h2 : ¬ ((v1 5) = 2)) (h3 : (r4 < 0)) : gsY_X11_unit_1_J2 NF f1 g1 v1 w1 = gsY_X11_unit_1_J6 NF f1 g1 v1 w1 r4 := by
  subst h1
  simp only [gsY_X11_unit_1_J2, if_pos h0, if_neg h2, if_pos h3]
theorem gsY_X11_unit_1_q13 {NF : Nat} {f1 : Nat → Nat → Int32} {g1 : Nat → Int64} {v1 : Nat → Int32} {w1 : Int64} {r4 : Int32} (h0 : ((v1 1) ≤ 0)) (h1 : r4 = gsY_X11_asked_1 NF v1 f1 w1 g1) (h2 : ¬ ((v1 5) = 2)) (h3 : ¬ (r4 < 0)) : gsY_X11_unit_1_J2 NF f1 g1 v1 w1 = gsY_X11_unit_1_J107 NF f1 g1 v1 w1 r4 := by
  subst h1
  simp only [gsY_X11_unit_1_J2, if_pos h0, if_neg h2, if_neg h3]
theorem gsY_X11_unit_1_q14 {NF : Nat} {f1 : Nat → Nat → Int32} {g1 : Nat → Int64} {v1 : Nat → Int32} {w1 : Int64} (h0 : ¬ ((v1 1) ≤ 0)) : gsY_X11_unit_1_J2 NF f1 g1 v1 w1 = (v1, f1, w1, g1) := by
  simp only [gsY_X11_unit_1_J2, if_neg h0]
theorem gsY_X11_unit_1_q0 {NF : Nat} {f1 : Nat → Nat → Int32} {g1 : Nat → Int64} {v1 : Nat → Int32} {w1 : Int64} {r4 : Int32} {v8 : Nat → Int32} {f9 : Nat → Nat → Int32} {w10 : Int64} {g11 : Nat → Int64} {v20 : Nat → Int32} {f21 : Nat → Nat → Int32} {w22 : Int64} {g23 : Nat → Int64} {v31 : Nat → Int32} {f32 : Nat → Nat → Int32} {w33 : Int64} {g34 : Nat → Int64} {v40 : Nat → Int32} {f41 : Nat → Nat → Int32} {w42 : Int64} {g43 : Nat → Int64} (h0 : gsY_X11_wrong_1 NF 2 v1 f1 w1 g1 = (v8, f9, w10, g11)) (h1 : ((v8 1) ≤ 0)) (h2 : gsY_X11_countUnit_1 NF v8 f9 w10 g11 = (v20, f21, w22, g23)) (h3 : (0 ≤ r4)) (h4 : (0 ≤ r4)) (h5 : gsY_X11_add_1 NF 1 r4 v20 f21 w22 g23 = (v31, f32, w33, g34)) (h6 : gsY_X11_token_1 NF v31 f32 w33 g34 = (v40, f41, w42, g43)) : gsY_X11_unit_1_J6 NF f1 g1 v1 w1 r4 = (v40, f41, w42, g43) := by
  simp only [gsY_X11_unit_1_J6, h0, if_pos h1, h2, if_pos h3, if_pos h4, h5, h6]
theorem gsY_X11_unit_1_q1 {NF : Nat} {f1 : Nat → Nat → Int32} {g1 : Nat → Int64} {v1 : Nat → Int32} {w1 : Int64} {r4 : Int32} {v8 : Nat → Int32} {f9 : Nat → Nat → Int32} {w10 : Int64} {g11 : Nat → Int64} {v20 : Nat → Int32} {f21 : Nat → Nat → Int32} {w22 : Int64} {g23 : Nat → Int64} {v50 : Nat → Int32} {f51 : Nat → Nat → Int32} {w52 : Int64} {g53 : Nat → Int64} {v59 : Nat → Int32} {f60 : Nat → Nat → Int32} {w61 : Int64} {g62 : Nat → Int64} (h0 : gsY_X11_wrong_1 NF 2 v1 f1 w1 g1 = (v8, f9, w10, g11)) (h1 : ((v8 1) ≤ 0)) (h2 : gsY_X11_countUnit_1 NF v8 f9 w10 g11 = (v20, f21, w22, g23)) (h3 : (0 ≤ r4)) (h4 : ¬ (0 ≤ r4)) (h5 : gsY_X11_add_1 NF 1 (v20 7) v20 f21 w22 g23 = (v50, f51, w52, g53)) (h6 : gsY_X11_token_1 NF v50 f51 w52 g53 = (v59, f60, w61, g62)) : gsY_X11_unit_1_J6 NF f1 g1 v1 w1 r4 = (v59, f60, w61, g62) := by
  exact absurd h3 h4
theorem gsY_X11_unit_1_q2 {NF : Nat} {f1 : Nat → Nat → Int32} {g1 : Nat → Int64} {v1 : Nat → Int32} {w1 : Int64} {r4 : Int32} {v8 : Nat → Int32} {f9 : Nat → Nat → Int32} {w10 : Int64} {g11 : Nat → Int64} {v20 : Nat → Int32} {f21 : Nat → Nat → Int32} {w22 : Int64} {g23 : Nat → Int64} {v70 : Nat → Int32} {f71 : Nat → Nat → Int32} {w72 : Int64} {g73 : Nat → Int64} {v79 : Nat → Int32} {f80 : Nat → Nat → Int32} {w81 : Int64} {g82 : Nat → Int64} (h0 : gsY_X11_wrong_1 NF 2 v1 f1 w1 g1 = (v8, f9, w10, g11)) (h1 : ((v8 1) ≤ 0)) (h2 : gsY_X11_countUnit_1 NF v8 f9 w10 g11 = (v20, f21, w22, g23)) (h3 : ¬ (0 ≤ r4)) (h4 : (0 ≤ r4)) (h5 : gsY_X11_add_1 NF 0 r4 v20 f21 w22 g23 = (v70, f71, w72, g73)) (h6 : gsY_X11_token_1 NF v70 f71 w72 g73 = (v79, f80, w81, g82)) : gsY_X11_unit_1_J6 NF f1 g1 v1 w1 r4 = (v79, f80, w81, g82) := by
  exact absurd h4 h3
theorem gsY_X11_unit_1_q3 {NF : Nat} {f1 : Nat → Nat → Int32} {g1 : Nat → Int64} {v1 : Nat → Int32} {w1 : Int64} {r4 : Int32} {v8 : Nat → Int32} {f9 : Nat → Nat → Int32} {w10 : Int64} {g11 : Nat → Int64} {v20 : Nat → Int32} {f21 : Nat → Nat → Int32} {w22 : Int64} {g23 : Nat → Int64} {v89 : Nat → Int32} {f90 : Nat → Nat → Int32} {w91 : Int64} {g92 : Nat → Int64} {v98 : Nat → Int32} {f99 : Nat → Nat → Int32} {w100 : Int64} {g101 : Nat → Int64} (h0 : gsY_X11_wrong_1 NF 2 v1 f1 w1 g1 = (v8, f9, w10, g11)) (h1 : ((v8 1) ≤ 0)) (h2 : gsY_X11_countUnit_1 NF v8 f9 w10 g11 = (v20, f21, w22, g23)) (h3 : ¬ (0 ≤ r4)) (h4 : ¬ (0 ≤ r4)) (h5 : gsY_X11_add_1 NF 0 (v20 7) v20 f21 w22 g23 = (v89, f90, w91, g92)) (h6 : gsY_X11_token_1 NF v89 f90 w91 g92 = (v98, f99, w100, g101)) : gsY_X11_unit_1_J6 NF f1 g1 v1 w1 r4 = (v98, f99, w100, g101) := by
  simp only [gsY_X11_unit_1_J6, h0, if_pos h1, h2, if_neg h3, if_neg h4, h5, h6]
theorem gsY_X11_unit_1_q4 {NF : Nat} {f1 : Nat → Nat → Int32} {g1 : Nat → Int64} {v1 : Nat → Int32} {w1 : Int64} {r4 : Int32} {v8 : Nat → Int32} {f9 : Nat → Nat → Int32} {w10 : Int64} {g11 : Nat → Int64} (h0 : gsY_X11_wrong_1 NF 2 v1 f1 w1 g1 = (v8, f9, w10, g11)) (h1 : ¬ ((v8 1) ≤ 0)) : gsY_X11_unit_1_J6 NF f1 g1 v1 w1 r4 = (v8, f9, w10, g11) := by
  simp only [gsY_X11_unit_1_J6, h0, if_neg h1]
theorem gsY_X11_unit_1_q5 {NF : Nat} {f1 : Nat → Nat → Int32} {g1 : Nat → Int64} {v1 : Nat → Int32} {w1 : Int64} {r4 : Int32} (h0 : gsY_X11_isFull_1 NF v1 f1 w1 g1 = 1) : gsY_X11_unit_1_J107 NF f1 g1 v1 w1 r4 = gsY_X11_unit_1_J6 NF f1 g1 v1 w1 r4 := by
  simp only [gsY_X11_unit_1_J107, h0, ite11, ite01, if_true, if_false]
theorem gsY_X11_unit_1_q6 {NF : Nat} {f1 : Nat → Nat → Int32} {g1 : Nat → Int64} {v1 : Nat → Int32} {w1 : Int64} {r4 : Int32} {v113 : Nat → Int32} {f114 : Nat → Nat → Int32} {w115 : Int64} {g116 : Nat → Int64} {v124 : Nat → Int32} {f125 : Nat → Nat → Int32} {w126 : Int64} {g127 : Nat → Int64} {v133 : Nat → Int32} {f134 : Nat → Nat → Int32} {w135 : Int64} {g136 : Nat → Int64} (h0 : gsY_X11_isFull_1 NF v1 f1 w1 g1 = 0) (h1 : ((v1 1) ≤ 0)) (h2 : gsY_X11_countUnit_1 NF v1 f1 w1 g1 = (v113, f114, w115, g116)) (h3 : (0 ≤ r4)) (h4 : (0 ≤ r4)) (h5 : gsY_X11_add_1 NF 1 r4 v113 f114 w115 g116 = (v124, f125, w126, g127)) (h6 : gsY_X11_token_1 NF v124 f125 w126 g127 = (v133, f134, w135, g136)) : gsY_X11_unit_1_J107 NF f1 g1 v1 w1 r4 = (v133, f134, w135, g136) := by
  simp only [gsY_X11_unit_1_J107, h0, if_pos h1, h2, if_pos h3, if_pos h4, h5, h6, ite11, ite01, if_true, if_false]
theorem gsY_X11_unit_1_q7 {NF : Nat} {f1 : Nat → Nat → Int32} {g1 : Nat → Int64} {v1 : Nat → Int32} {w1 : Int64} {r4 : Int32} {v113 : Nat → Int32} {f114 : Nat → Nat → Int32} {w115 : Int64} {g116 : Nat → Int64} {v143 : Nat → Int32} {f144 : Nat → Nat → Int32} {w145 : Int64} {g146 : Nat → Int64} {v152 : Nat → Int32} {f153 : Nat → Nat → Int32} {w154 : Int64} {g155 : Nat → Int64} (h0 : gsY_X11_isFull_1 NF v1 f1 w1 g1 = 0) (h1 : ((v1 1) ≤ 0)) (h2 : gsY_X11_countUnit_1 NF v1 f1 w1 g1 = (v113, f114, w115, g116)) (h3 : (0 ≤ r4)) (h4 : ¬ (0 ≤ r4)) (h5 : gsY_X11_add_1 NF 1 (v113 7) v113 f114 w115 g116 = (v143, f144, w145, g146)) (h6 : gsY_X11_token_1 NF v143 f144 w145 g146 = (v152, f153, w154, g155)) : gsY_X11_unit_1_J107 NF f1 g1 v1 w1 r4 = (v152, f153, w154, g155) := by
  exact absurd h3 h4
theorem gsY_X11_unit_1_q8 {NF : Nat} {f1 : Nat → Nat → Int32} {g1 : Nat → Int64} {v1 : Nat → Int32} {w1 : Int64} {r4 : Int32} {v113 : Nat → Int32} {f114 : Nat → Nat → Int32} {w115 : Int64} {g116 : Nat → Int64} {v163 : Nat → Int32} {f164 : Nat → Nat → Int32} {w165 : Int64} {g166 : Nat → Int64} {v172 : Nat → Int32} {f173 : Nat → Nat → Int32} {w174 : Int64} {g175 : Nat → Int64} (h0 : gsY_X11_isFull_1 NF v1 f1 w1 g1 = 0) (h1 : ((v1 1) ≤ 0)) (h2 : gsY_X11_countUnit_1 NF v1 f1 w1 g1 = (v113, f114, w115, g116)) (h3 : ¬ (0 ≤ r4)) (h4 : (0 ≤ r4)) (h5 : gsY_X11_add_1 NF 0 r4 v113 f114 w115 g116 = (v163, f164, w165, g166)) (h6 : gsY_X11_token_1 NF v163 f164 w165 g166 = (v172, f173, w174, g175)) : gsY_X11_unit_1_J107 NF f1 g1 v1 w1 r4 = (v172, f173, w174, g175) := by
  exact absurd h4 h3
theorem gsY_X11_unit_1_q9 {NF : Nat} {f1 : Nat → Nat → Int32} {g1 : Nat → Int64} {v1 : Nat → Int32} {w1 : Int64} {r4 : Int32} {v113 : Nat → Int32} {f114 : Nat → Nat → Int32} {w115 : Int64} {g116 : Nat → Int64} {v182 : Nat → Int32} {f183 : Nat → Nat → Int32} {w184 : Int64} {g185 : Nat → Int64} {v191 : Nat → Int32} {f192 : Nat → Nat → Int32} {w193 : Int64} {g194 : Nat → Int64} (h0 : gsY_X11_isFull_1 NF v1 f1 w1 g1 = 0) (h1 : ((v1 1) ≤ 0)) (h2 : gsY_X11_countUnit_1 NF v1 f1 w1 g1 = (v113, f114, w115, g116)) (h3 : ¬ (0 ≤ r4)) (h4 : ¬ (0 ≤ r4)) (h5 : gsY_X11_add_1 NF 0 (v113 7) v113 f114 w115 g116 = (v182, f183, w184, g185)) (h6 : gsY_X11_token_1 NF v182 f183 w184 g185 = (v191, f192, w193, g194)) : gsY_X11_unit_1_J107 NF f1 g1 v1 w1 r4 = (v191, f192, w193, g194) := by
  simp only [gsY_X11_unit_1_J107, h0, if_pos h1, h2, if_neg h3, if_neg h4, h5, h6, ite11, ite01, if_true, if_false]
theorem gsY_X11_unit_1_q10 {NF : Nat} {f1 : Nat → Nat → Int32} {g1 : Nat → Int64} {v1 : Nat → Int32} {w1 : Int64} {r4 : Int32} (h0 : gsY_X11_isFull_1 NF v1 f1 w1 g1 = 0) (h1 : ¬ ((v1 1) ≤ 0)) : gsY_X11_unit_1_J107 NF f1 g1 v1 w1 r4 = (v1, f1, w1, g1) := by
  simp only [gsY_X11_unit_1_J107, h0, if_neg h1, ite11, ite01, if_true, if_false]
theorem gsY_X11_unit_1_q17 {NF : Nat} {f1 : Nat → Nat → Int32} {g1 : Nat → Int64} {l1_1 : Int32} {v1 : Nat → Int32} {w1 : Int64} {k1 : Int32 → (Nat → Int32) → (Nat → Nat → Int32) → Int64 → (Nat → Int64) → ((Nat → Int32) × (Nat → Nat → Int32) × (Int64) × (Nat → Int64))} (h0 : ¬ ((v1 5) = 40)) : gsY_X11_unit_1_J204 NF f1 g1 l1_1 v1 w1 k1 = k1 0 v1 f1 w1 g1 := by
  simp only [gsY_X11_unit_1_J204, if_neg h0]
theorem gsY_X11_unit_1_q18 {NF : Nat} {f1 : Nat → Nat → Int32} {g1 : Nat → Int64} {l1_1 : Int32} {v1 : Nat → Int32} {w1 : Int64} {v210 : Nat → Int32} {f211 : Nat → Nat → Int32} {w212 : Int64} {g213 : Nat → Int64} {v221 : Nat → Int32} {f222 : Nat → Nat → Int32} {w223 : Int64} {g224 : Nat → Int64} {v230 : Nat → Int32} {f231 : Nat → Nat → Int32} {w232 : Int64} {g233 : Nat → Int64} {k1 : Int32 → (Nat → Int32) → (Nat → Nat → Int32) → Int64 → (Nat → Int64) → ((Nat → Int32) × (Nat → Nat → Int32) × (Int64) × (Nat → Int64))} (h0 : ((v1 5) = 40)) (h1 : gsY_X11_isFull_1 NF v1 f1 w1 g1 = 1) (h2 : gsY_X11_wrong_1 NF 2 v1 f1 w1 g1 = (v210, f211, w212, g213)) (h3 : gsY_X11_countUnit_1 NF v210 f211 w212 g213 = (v221, f222, w223, g224)) (h4 : gsY_X11_openUp_1 NF 20 v221 f222 w223 g224 = (v230, f231, w232, g233)) : gsY_X11_unit_1_J204 NF f1 g1 l1_1 v1 w1 k1 = k1 l1_1 v230 f231 w232 g233 := by
  simp only [gsY_X11_unit_1_J204, if_pos h0, h1, h2, h3, h4, ite11, ite01, if_true, if_false]
theorem gsY_X11_unit_1_q19 {NF : Nat} {f1 : Nat → Nat → Int32} {g1 : Nat → Int64} {l1_1 : Int32} {v1 : Nat → Int32} {w1 : Int64} {v243 : Nat → Int32} {f244 : Nat → Nat → Int32} {w245 : Int64} {g246 : Nat → Int64} {v252 : Nat → Int32} {f253 : Nat → Nat → Int32} {w254 : Int64} {g255 : Nat → Int64} {k1 : Int32 → (Nat → Int32) → (Nat → Nat → Int32) → Int64 → (Nat → Int64) → ((Nat → Int32) × (Nat → Nat → Int32) × (Int64) × (Nat → Int64))} (h0 : ((v1 5) = 40)) (h1 : gsY_X11_isFull_1 NF v1 f1 w1 g1 = 0) (h2 : ((v1 14) ≤ 6)) (h3 : gsY_X11_countUnit_1 NF v1 f1 w1 g1 = (v243, f244, w245, g246)) (h4 : gsY_X11_openUp_1 NF 20 v243 f244 w245 g246 = (v252, f253, w254, g255)) : gsY_X11_unit_1_J204 NF f1 g1 l1_1 v1 w1 k1 = k1 l1_1 v252 f253 w254 g255 := by
  simp only [gsY_X11_unit_1_J204, if_pos h0, h1, if_pos h2, h3, h4, ite11, ite01, if_true, if_false]
theorem gsY_X11_unit_1_q20 {NF : Nat} {f1 : Nat → Nat → Int32} {g1 : Nat → Int64} {l1_1 : Int32} {v1 : Nat → Int32} {w1 : Int64} {v264 : Nat → Int32} {f265 : Nat → Nat → Int32} {w266 : Int64} {g267 : Nat → Int64} {v275 : Nat → Int32} {f276 : Nat → Nat → Int32} {w277 : Int64} {g278 : Nat → Int64} {v284 : Nat → Int32} {f285 : Nat → Nat → Int32} {w286 : Int64} {g287 : Nat → Int64} {k1 : Int32 → (Nat → Int32) → (Nat → Nat → Int32) → Int64 → (Nat → Int64) → ((Nat → Int32) × (Nat → Nat → Int32) × (Int64) × (Nat → Int64))} (h0 : ((v1 5) = 40)) (h1 : gsY_X11_isFull_1 NF v1 f1 w1 g1 = 0) (h2 : ¬ ((v1 14) ≤ 6)) (h3 : gsY_X11_wrong_1 NF 2 v1 f1 w1 g1 = (v264, f265, w266, g267)) (h4 : gsY_X11_countUnit_1 NF v264 f265 w266 g267 = (v275, f276, w277, g278)) (h5 : gsY_X11_openUp_1 NF 20 v275 f276 w277 g278 = (v284, f285, w286, g287)) : gsY_X11_unit_1_J204 NF f1 g1 l1_1 v1 w1 k1 = k1 l1_1 v284 f285 w286 g287 := by
  simp only [gsY_X11_unit_1_J204, if_pos h0, h1, if_neg h2, h3, h4, h5, ite11, ite01, if_true, if_false]
def gsY_X11_close_1_L1 (NF : Nat) (p1 : Int32) : Nat → (Nat → Int32) → (Nat → Nat → Int32) → (Int64) → (Nat → Int64) → (Nat → Int32) × (Nat → Nat → Int32) × (Int64) × (Nat → Int64)
  | 0, _, _, _, _ => ((fun _ => 0), (fun _ _ => 0), 0, (fun _ => 0))
  | n1 + 1, v1, f1, w1, g1 =>
    if (v1 10) ≤ 0 then
      (v1, f1, w1, g1)
    else
      let t3 : Int32 := (v1 10) - 1
      let t5 : Int32 := f1 6 (t3).toNatClampNeg
      if t5 = 20 then
        (v1, f1, w1, g1)
      else
        let r7 : Int32 := gsY_X11_tight_1 NF t5 v1 f1 w1 g1
        if r7 < p1 then
          (v1, f1, w1, g1)
        else
          if t5 = 21 then
            match gsY_X11_add_1 NF 2 0 (upd v1 10 t3) f1 w1 g1 with
            | (v25, f26, w27, g28) =>
              let t33 : Int32 := (v1 14) - 1
              gsY_X11_close_1_L1 NF p1 n1 (upd v25 14 t33) f26 w27 g28
          else
            match gsY_X11_add_1 NF 3 t5 (upd v1 10 t3) f1 w1 g1 with
            | (v16, f17, w18, g19) =>
              gsY_X11_close_1_L1 NF p1 n1 v16 f17 w18 g19
def gsY_X11_close_1 (NF : Nat) (p1 : Int32) (v : Nat → Int32) (f : Nat → Nat → Int32) (w : Int64) (g : Nat → Int64) : (Nat → Int32) × (Nat → Nat → Int32) × (Int64) × (Nat → Int64) :=
  gsY_X11_close_1_L1 NF p1 (4294967296 + NF) v f w g
theorem gsY_X11_close_1_q5 {NF : Nat} {p1 : Int32} {v : Nat → Int32} {f : Nat → Nat → Int32} {w : Int64} {g : Nat → Int64}  : gsY_X11_close_1 NF p1 v f w g = gsY_X11_close_1_L1 NF p1 (4294967296 + NF) v f w g := by
  simp only [gsY_X11_close_1]
theorem gsY_X11_close_1_q0 {NF : Nat} {p1 : Int32} {n1 : Nat} {v1 : Nat → Int32} {f1 : Nat → Nat → Int32} {w1 : Int64} {g1 : Nat → Int64} (h0 : ((v1 10) ≤ 0)) : gsY_X11_close_1_L1 NF p1 (n1 + 1) v1 f1 w1 g1 = (v1, f1, w1, g1) := by
  simp only [gsY_X11_close_1_L1, if_pos h0]
theorem gsY_X11_close_1_q1 {NF : Nat} {p1 : Int32} {n1 : Nat} {v1 : Nat → Int32} {f1 : Nat → Nat → Int32} {w1 : Int64} {g1 : Nat → Int64} {t3 : Int32} {t5 : Int32} (h0 : ¬ ((v1 10) ≤ 0)) (h1 : t3 = (v1 10) - 1) (h2 : t5 = f1 6 (t3).toNatClampNeg) (h3 : (t5 = 20)) : gsY_X11_close_1_L1 NF p1 (n1 + 1) v1 f1 w1 g1 = (v1, f1, w1, g1) := by
  subst h1 h2
  simp only [gsY_X11_close_1_L1, if_neg h0, if_pos h3]
theorem gsY_X11_close_1_q2 {NF : Nat} {p1 : Int32} {n1 : Nat} {v1 : Nat → Int32} {f1 : Nat → Nat → Int32} {w1 : Int64} {g1 : Nat → Int64} {t3 : Int32} {t5 : Int32} {r7 : Int32} (h0 : ¬ ((v1 10) ≤ 0)) (h1 : t3 = (v1 10) - 1) (h2 : t5 = f1 6 (t3).toNatClampNeg) (h3 : ¬ (t5 = 20)) (h4 : r7 = gsY_X11_tight_1 NF t5 v1 f1 w1 g1) (h5 : (r7 < p1)) : gsY_X11_close_1_L1 NF p1 (n1 + 1) v1 f1 w1 g1 = (v1, f1, w1, g1) := by
  subst h1 h2 h4
  simp only [gsY_X11_close_1_L1, if_neg h0, if_neg h3, if_pos h5]
theorem gsY_X11_close_1_q3 {NF : Nat} {p1 : Int32} {n1 : Nat} {v1 : Nat → Int32} {f1 : Nat → Nat → Int32} {w1 : Int64} {g1 : Nat → Int64} {t3 : Int32} {t5 : Int32} {r7 : Int32} {v16 : Nat → Int32} {f17 : Nat → Nat → Int32} {w18 : Int64} {g19 : Nat → Int64} (h0 : ¬ ((v1 10) ≤ 0)) (h1 : t3 = (v1 10) - 1) (h2 : t5 = f1 6 (t3).toNatClampNeg) (h3 : ¬ (t5 = 20)) (h4 : r7 = gsY_X11_tight_1 NF t5 v1 f1 w1 g1) (h5 : ¬ (r7 < p1)) (h6 : ¬ (t5 = 21)) (h7 : gsY_X11_add_1 NF 3 t5 (upd v1 10 t3) f1 w1 g1 = (v16, f17, w18, g19)) : gsY_X11_close_1_L1 NF p1 (n1 + 1) v1 f1 w1 g1 = gsY_X11_close_1_L1 NF p1 n1 v16 f17 w18 g19 := by
  subst h1 h2 h4
  simp only [gsY_X11_close_1_L1, if_neg h0, if_neg h3, if_neg h5, if_neg h6, h7]
theorem gsY_X11_close_1_q4 {NF : Nat} {p1 : Int32} {n1 : Nat} {v1 : Nat → Int32} {f1 : Nat → Nat → Int32} {w1 : Int64} {g1 : Nat → Int64} {t3 : Int32} {t5 : Int32} {r7 : Int32} {v25 : Nat → Int32} {f26 : Nat → Nat → Int32} {w27 : Int64} {g28 : Nat → Int64} {t33 : Int32} (h0 : ¬ ((v1 10) ≤ 0)) (h1 : t3 = (v1 10) - 1) (h2 : t5 = f1 6 (t3).toNatClampNeg) (h3 : ¬ (t5 = 20)) (h4 : r7 = gsY_X11_tight_1 NF t5 v1 f1 w1 g1) (h5 : ¬ (r7 < p1)) (h6 : (t5 = 21)) (h7 : gsY_X11_add_1 NF 2 0 (upd v1 10 t3) f1 w1 g1 = (v25, f26, w27, g28)) (h8 : t33 = (v1 14) - 1) : gsY_X11_close_1_L1 NF p1 (n1 + 1) v1 f1 w1 g1 = gsY_X11_close_1_L1 NF p1 n1 (upd v25 14 t33) f26 w27 g28 := by
  subst h1 h2 h4 h8
  simp only [gsY_X11_close_1_L1, if_neg h0, if_neg h3, if_neg h5, if_pos h6, h7]
def gsY_X11_hasBracket_1_L1 (NF : Nat) (v : Nat → Int32) (f : Nat → Nat → Int32) : Nat → (Int32) → (Int32) → Int32
  | 0, _, _ => 0
  | n1 + 1, l1_1, l2_1 =>
    if (v 10) ≤ l2_1 then
      l1_1
    else
      if l1_1 = 0 then
        let t11 : Int32 := f 6 (l2_1).toNatClampNeg
        if t11 = 20 then
          let t15 : Int32 := l2_1 + 1
          gsY_X11_hasBracket_1_L1 NF v f n1 1 t15
        else
          let t13 : Int32 := l2_1 + 1
          gsY_X11_hasBracket_1_L1 NF v f n1 0 t13
      else
        let t9 : Int32 := l2_1 + 1
        gsY_X11_hasBracket_1_L1 NF v f n1 1 t9
def gsY_X11_hasBracket_1 (NF : Nat) (v : Nat → Int32) (f : Nat → Nat → Int32) (w : Int64) (g : Nat → Int64) : Int32 :=
  gsY_X11_hasBracket_1_L1 NF v f (4294967296 + NF) 0 0
theorem gsY_X11_hasBracket_1_q4 {NF : Nat} {v : Nat → Int32} {f : Nat → Nat → Int32} {w : Int64} {g : Nat → Int64}  : gsY_X11_hasBracket_1 NF v f w g = gsY_X11_hasBracket_1_L1 NF v f (4294967296 + NF) 0 0 := by
  simp only [gsY_X11_hasBracket_1]
theorem gsY_X11_hasBracket_1_q0 {NF : Nat} {v : Nat → Int32} {f : Nat → Nat → Int32} {n1 : Nat} {l1_1 : Int32} {l2_1 : Int32} (h0 : ((v 10) ≤ l2_1)) : gsY_X11_hasBracket_1_L1 NF v f (n1 + 1) l1_1 l2_1 = l1_1 := by
  simp only [gsY_X11_hasBracket_1_L1, if_pos h0]
theorem gsY_X11_hasBracket_1_q1 {NF : Nat} {v : Nat → Int32} {f : Nat → Nat → Int32} {n1 : Nat} {l1_1 : Int32} {l2_1 : Int32} {t9 : Int32} (h0 : ¬ ((v 10) ≤ l2_1)) (h1 : ¬ (l1_1 = 0)) (h2 : t9 = l2_1 + 1) : gsY_X11_hasBracket_1_L1 NF v f (n1 + 1) l1_1 l2_1 = gsY_X11_hasBracket_1_L1 NF v f n1 1 t9 := by
  subst h2
  simp only [gsY_X11_hasBracket_1_L1, if_neg h0, if_neg h1]
theorem gsY_X11_hasBracket_1_q2 {NF : Nat} {v : Nat → Int32} {f : Nat → Nat → Int32} {n1 : Nat} {l1_1 : Int32} {l2_1 : Int32} {t11 : Int32} {t13 : Int32} (h0 : ¬ ((v 10) ≤ l2_1)) (h1 : (l1_1 = 0)) (h2 : t11 = f 6 (l2_1).toNatClampNeg) (h3 : ¬ (t11 = 20)) (h4 : t13 = l2_1 + 1) : gsY_X11_hasBracket_1_L1 NF v f (n1 + 1) l1_1 l2_1 = gsY_X11_hasBracket_1_L1 NF v f n1 0 t13 := by
  subst h2 h4
  simp only [gsY_X11_hasBracket_1_L1, if_neg h0, if_pos h1, if_neg h3]
theorem gsY_X11_hasBracket_1_q3 {NF : Nat} {v : Nat → Int32} {f : Nat → Nat → Int32} {n1 : Nat} {l1_1 : Int32} {l2_1 : Int32} {t11 : Int32} {t15 : Int32} (h0 : ¬ ((v 10) ≤ l2_1)) (h1 : (l1_1 = 0)) (h2 : t11 = f 6 (l2_1).toNatClampNeg) (h3 : (t11 = 20)) (h4 : t15 = l2_1 + 1) : gsY_X11_hasBracket_1_L1 NF v f (n1 + 1) l1_1 l2_1 = gsY_X11_hasBracket_1_L1 NF v f n1 1 t15 := by
  subst h2 h4
  simp only [gsY_X11_hasBracket_1_L1, if_neg h0, if_pos h1, if_pos h3]
def gsY_X11_sign_1 (NF : Nat) (v : Nat → Int32) (f : Nat → Nat → Int32) (w : Int64) (g : Nat → Int64) : Int32 :=
  if gsY_X11_isWord_1 NF (6385252 : Int64) v f w g = 1 then
    38
  else
    if gsY_X11_isWord_1 NF (28530 : Int64) v f w g = 1 then
      124
    else
      if (v 5) = 60 then
        (v 5)
      else
        if (v 5) = 62 then
          (v 5)
        else
          if (v 5) = 61 then
            (v 5)
          else
            if (v 5) = 43 then
              (v 5)
            else
              if (v 5) = 45 then
                (v 5)
              else
                if (v 5) = 42 then
                  (v 5)
                else
                  if (v 5) = 47 then
                    (v 5)
                  else
                    if (v 5) = 37 then
                      (v 5)
                    else
                      0
theorem gsY_X11_sign_1_q0 {NF : Nat} {v : Nat → Int32} {f : Nat → Nat → Int32} {w : Int64} {g : Nat → Int64} (h0 : gsY_X11_isWord_1 NF (6385252 : Int64) v f w g = 1) : gsY_X11_sign_1 NF v f w g = 38 := by
  simp only [gsY_X11_sign_1, h0, ite11, ite01, if_true, if_false]
theorem gsY_X11_sign_1_q1 {NF : Nat} {v : Nat → Int32} {f : Nat → Nat → Int32} {w : Int64} {g : Nat → Int64} (h0 : gsY_X11_isWord_1 NF (6385252 : Int64) v f w g = 0) (h1 : gsY_X11_isWord_1 NF (28530 : Int64) v f w g = 1) : gsY_X11_sign_1 NF v f w g = 124 := by
  simp only [gsY_X11_sign_1, h0, h1, ite11, ite01, if_true, if_false]
theorem gsY_X11_sign_1_q2 {NF : Nat} {v : Nat → Int32} {f : Nat → Nat → Int32} {w : Int64} {g : Nat → Int64} (h0 : gsY_X11_isWord_1 NF (6385252 : Int64) v f w g = 0) (h1 : gsY_X11_isWord_1 NF (28530 : Int64) v f w g = 0) (h2 : ((v 5) = 60)) : gsY_X11_sign_1 NF v f w g = (v 5) := by
  simp only [gsY_X11_sign_1, h0, h1, if_pos h2, ite11, ite01, if_true, if_false]
theorem gsY_X11_sign_1_q3 {NF : Nat} {v : Nat → Int32} {f : Nat → Nat → Int32} {w : Int64} {g : Nat → Int64} (h0 : gsY_X11_isWord_1 NF (6385252 : Int64) v f w g = 0) (h1 : gsY_X11_isWord_1 NF (28530 : Int64) v f w g = 0) (h2 : ¬ ((v 5) = 60)) (h3 : ((v 5) = 62)) : gsY_X11_sign_1 NF v f w g = (v 5) := by
  simp only [gsY_X11_sign_1, h0, h1, if_neg h2, if_pos h3, ite11, ite01, if_true, if_false]
theorem gsY_X11_sign_1_q4 {NF : Nat} {v : Nat → Int32} {f : Nat → Nat → Int32} {w : Int64} {g : Nat → Int64} (h0 : gsY_X11_isWord_1 NF (6385252 : Int64) v f w g = 0) (h1 : gsY_X11_isWord_1 NF (28530 : Int64) v f w g = 0) (h2 : ¬ ((v 5) = 60)) (h3 : ¬ ((v 5) = 62)) (h4 : ((v 5) = 61)) : gsY_X11_sign_1 NF v f w g = (v 5) := by
  simp only [gsY_X11_sign_1, h0, h1, if_neg h2, if_neg h3, if_pos h4, ite11, ite01, if_true, if_false]
theorem gsY_X11_sign_1_q5 {NF : Nat} {v : Nat → Int32} {f : Nat → Nat → Int32} {w : Int64} {g : Nat → Int64} (h0 : gsY_X11_isWord_1 NF (6385252 : Int64) v f w g = 0) (h1 : gsY_X11_isWord_1 NF (28530 : Int64) v f w g = 0) (h2 : ¬ ((v 5) = 60)) (h3 : ¬ ((v 5) = 62)) (h4 : ¬ ((v 5) = 61)) (h5 : ((v 5) = 43)) : gsY_X11_sign_1 NF v f w g = (v 5) := by
  simp only [gsY_X11_sign_1, h0, h1, if_neg h2, if_neg h3, if_neg h4, if_pos h5, ite11, ite01, if_true, if_false]
theorem gsY_X11_sign_1_q6 {NF : Nat} {v : Nat → Int32} {f : Nat → Nat → Int32} {w : Int64} {g : Nat → Int64} (h0 : gsY_X11_isWord_1 NF (6385252 : Int64) v f w g = 0) (h1 : gsY_X11_isWord_1 NF (28530 : Int64) v f w g = 0) (h2 : ¬ ((v 5) = 60)) (h3 : ¬ ((v 5) = 62)) (h4 : ¬ ((v 5) = 61)) (h5 : ¬ ((v 5) = 43)) (h6 : ((v 5) = 45)) : gsY_X11_sign_1 NF v f w g = (v 5) := by
  simp only [gsY_X11_sign_1, h0, h1, if_neg h2, if_neg h3, if_neg h4, if_neg h5, if_pos h6, ite11, ite01, if_true, if_false]
theorem gsY_X11_sign_1_q7 {NF : Nat} {v : Nat → Int32} {f : Nat → Nat → Int32} {w : Int64} {g : Nat → Int64} (h0 : gsY_X11_isWord_1 NF (6385252 : Int64) v f w g = 0) (h1 : gsY_X11_isWord_1 NF (28530 : Int64) v f w g = 0) (h2 : ¬ ((v 5) = 60)) (h3 : ¬ ((v 5) = 62)) (h4 : ¬ ((v 5) = 61)) (h5 : ¬ ((v 5) = 43)) (h6 : ¬ ((v 5) = 45)) (h7 : ((v 5) = 42)) : gsY_X11_sign_1 NF v f w g = (v 5) := by
  simp only [gsY_X11_sign_1, h0, h1, if_neg h2, if_neg h3, if_neg h4, if_neg h5, if_neg h6, if_pos h7, ite11, ite01, if_true, if_false]
theorem gsY_X11_sign_1_q8 {NF : Nat} {v : Nat → Int32} {f : Nat → Nat → Int32} {w : Int64} {g : Nat → Int64} (h0 : gsY_X11_isWord_1 NF (6385252 : Int64) v f w g = 0) (h1 : gsY_X11_isWord_1 NF (28530 : Int64) v f w g = 0) (h2 : ¬ ((v 5) = 60)) (h3 : ¬ ((v 5) = 62)) (h4 : ¬ ((v 5) = 61)) (h5 : ¬ ((v 5) = 43)) (h6 : ¬ ((v 5) = 45)) (h7 : ¬ ((v 5) = 42)) (h8 : ((v 5) = 47)) : gsY_X11_sign_1 NF v f w g = (v 5) := by
  simp only [gsY_X11_sign_1, h0, h1, if_neg h2, if_neg h3, if_neg h4, if_neg h5, if_neg h6, if_neg h7, if_pos h8, ite11, ite01, if_true, if_false]
theorem gsY_X11_sign_1_q9 {NF : Nat} {v : Nat → Int32} {f : Nat → Nat → Int32} {w : Int64} {g : Nat → Int64} (h0 : gsY_X11_isWord_1 NF (6385252 : Int64) v f w g = 0) (h1 : gsY_X11_isWord_1 NF (28530 : Int64) v f w g = 0) (h2 : ¬ ((v 5) = 60)) (h3 : ¬ ((v 5) = 62)) (h4 : ¬ ((v 5) = 61)) (h5 : ¬ ((v 5) = 43)) (h6 : ¬ ((v 5) = 45)) (h7 : ¬ ((v 5) = 42)) (h8 : ¬ ((v 5) = 47)) (h9 : ¬ ((v 5) = 37)) : gsY_X11_sign_1 NF v f w g = 0 := by
  simp only [gsY_X11_sign_1, h0, h1, if_neg h2, if_neg h3, if_neg h4, if_neg h5, if_neg h6, if_neg h7, if_neg h8, if_neg h9, ite11, ite01, if_true, if_false]
theorem gsY_X11_sign_1_q10 {NF : Nat} {v : Nat → Int32} {f : Nat → Nat → Int32} {w : Int64} {g : Nat → Int64} (h0 : gsY_X11_isWord_1 NF (6385252 : Int64) v f w g = 0) (h1 : gsY_X11_isWord_1 NF (28530 : Int64) v f w g = 0) (h2 : ¬ ((v 5) = 60)) (h3 : ¬ ((v 5) = 62)) (h4 : ¬ ((v 5) = 61)) (h5 : ¬ ((v 5) = 43)) (h6 : ¬ ((v 5) = 45)) (h7 : ¬ ((v 5) = 42)) (h8 : ¬ ((v 5) = 47)) (h9 : ((v 5) = 37)) : gsY_X11_sign_1 NF v f w g = (v 5) := by
  simp only [gsY_X11_sign_1, h0, h1, if_neg h2, if_neg h3, if_neg h4, if_neg h5, if_neg h6, if_neg h7, if_neg h8, if_pos h9, ite11, ite01, if_true, if_false]
def gsY_X11_hasRelation_1_L3 (NF : Nat) (v : Nat → Int32) (f : Nat → Nat → Int32) (w : Int64) (g : Nat → Int64) : Nat → (Int32) → Int32
  | 0, _ => 0
  | n3 + 1, l1_3 =>
    if l1_3 < 0 then
      if l1_3 < 0 then
        0
      else
        let t6 : Int32 := f 6 (l1_3).toNatClampNeg
        if t6 = 20 then
          0
        else
          let r8 : Int32 := gsY_X11_tight_1 NF t6 v f w g
          if r8 = 4 then
            1
          else
            0
    else
      let t11 : Int32 := f 6 (l1_3).toNatClampNeg
      if t11 = 20 then
        if l1_3 < 0 then
          0
        else
          if t11 = 20 then
            0
          else
            let r15 : Int32 := gsY_X11_tight_1 NF t11 v f w g
            if r15 = 4 then
              1
            else
              0
      else
        let r18 : Int32 := gsY_X11_tight_1 NF t11 v f w g
        if r18 ≤ 4 then
          if l1_3 < 0 then
            0
          else
            if t11 = 20 then
              0
            else
              let r23 : Int32 := gsY_X11_tight_1 NF t11 v f w g
              if r23 = 4 then
                1
              else
                0
        else
          let t26 : Int32 := l1_3 + (-1)
          gsY_X11_hasRelation_1_L3 NF v f w g n3 t26
def gsY_X11_hasRelation_1 (NF : Nat) (v : Nat → Int32) (f : Nat → Nat → Int32) (w : Int64) (g : Nat → Int64) : Int32 :=
  let t1 : Int32 := (v 10) - 1
  gsY_X11_hasRelation_1_L3 NF v f w g (4294967296 + NF) t1
theorem gsY_X11_hasRelation_1_q13 {NF : Nat} {v : Nat → Int32} {f : Nat → Nat → Int32} {w : Int64} {g : Nat → Int64} {t1 : Int32} (h0 : t1 = (v 10) - 1) : gsY_X11_hasRelation_1 NF v f w g = gsY_X11_hasRelation_1_L3 NF v f w g (4294967296 + NF) t1 := by
  subst h0
  simp only [gsY_X11_hasRelation_1]
theorem gsY_X11_hasRelation_1_q0 {NF : Nat} {v : Nat → Int32} {f : Nat → Nat → Int32} {w : Int64} {g : Nat → Int64} {n3 : Nat} {l1_3 : Int32} (h0 : (l1_3 < 0)) (h1 : (l1_3 < 0)) : gsY_X11_hasRelation_1_L3 NF v f w g (n3 + 1) l1_3 = 0 := by
  simp only [gsY_X11_hasRelation_1_L3, if_pos h0, if_pos h1]
theorem gsY_X11_hasRelation_1_q1 {NF : Nat} {v : Nat → Int32} {f : Nat → Nat → Int32} {w : Int64} {g : Nat → Int64} {n3 : Nat} {l1_3 : Int32} {t6 : Int32} (h0 : (l1_3 < 0)) (h1 : ¬ (l1_3 < 0)) (h2 : t6 = f 6 (l1_3).toNatClampNeg) (h3 : (t6 = 20)) : gsY_X11_hasRelation_1_L3 NF v f w g (n3 + 1) l1_3 = 0 := by
  exact absurd h0 h1
theorem gsY_X11_hasRelation_1_q2 {NF : Nat} {v : Nat → Int32} {f : Nat → Nat → Int32} {w : Int64} {g : Nat → Int64} {n3 : Nat} {l1_3 : Int32} {t6 : Int32} {r8 : Int32} (h0 : (l1_3 < 0)) (h1 : ¬ (l1_3 < 0)) (h2 : t6 = f 6 (l1_3).toNatClampNeg) (h3 : ¬ (t6 = 20)) (h4 : r8 = gsY_X11_tight_1 NF t6 v f w g) (h5 : ¬ (r8 = 4)) : gsY_X11_hasRelation_1_L3 NF v f w g (n3 + 1) l1_3 = 0 := by
  exact absurd h0 h1
theorem gsY_X11_hasRelation_1_q3 {NF : Nat} {v : Nat → Int32} {f : Nat → Nat → Int32} {w : Int64} {g : Nat → Int64} {n3 : Nat} {l1_3 : Int32} {t6 : Int32} {r8 : Int32} (h0 : (l1_3 < 0)) (h1 : ¬ (l1_3 < 0)) (h2 : t6 = f 6 (l1_3).toNatClampNeg) (h3 : ¬ (t6 = 20)) (h4 : r8 = gsY_X11_tight_1 NF t6 v f w g) (h5 : (r8 = 4)) : gsY_X11_hasRelation_1_L3 NF v f w g (n3 + 1) l1_3 = 1 := by
  exact absurd h0 h1
theorem gsY_X11_hasRelation_1_q4 {NF : Nat} {v : Nat → Int32} {f : Nat → Nat → Int32} {w : Int64} {g : Nat → Int64} {n3 : Nat} {l1_3 : Int32} {t11 : Int32} (h0 : ¬ (l1_3 < 0)) (h1 : t11 = f 6 (l1_3).toNatClampNeg) (h2 : (t11 = 20)) (h3 : (l1_3 < 0)) : gsY_X11_hasRelation_1_L3 NF v f w g (n3 + 1) l1_3 = 0 := by
  exact absurd h3 h0
theorem gsY_X11_hasRelation_1_q5 {NF : Nat} {v : Nat → Int32} {f : Nat → Nat → Int32} {w : Int64} {g : Nat → Int64} {n3 : Nat} {l1_3 : Int32} {t11 : Int32} (h0 : ¬ (l1_3 < 0)) (h1 : t11 = f 6 (l1_3).toNatClampNeg) (h2 : (t11 = 20)) (h3 : ¬ (l1_3 < 0)) (h4 : (t11 = 20)) : gsY_X11_hasRelation_1_L3 NF v f w g (n3 + 1) l1_3 = 0 := by
  subst h1
  simp only [gsY_X11_hasRelation_1_L3, if_neg h0, if_pos h2, if_neg h3, if_pos h4]
theorem gsY_X11_hasRelation_1_q6 {NF : Nat} {v : Nat → Int32} {f : Nat → Nat → Int32} {w : Int64} {g : Nat → Int64} {n3 : Nat} {l1_3 : Int32} {t11 : Int32} {r15 : Int32} (h0 : ¬ (l1_3 < 0)) (h1 : t11 = f 6 (l1_3).toNatClampNeg) (h2 : (t11 = 20)) (h3 : ¬ (l1_3 < 0)) (h4 : ¬ (t11 = 20)) (h5 : r15 = gsY_X11_tight_1 NF t11 v f w g) (h6 : ¬ (r15 = 4)) : gsY_X11_hasRelation_1_L3 NF v f w g (n3 + 1) l1_3 = 0 := by
  exact absurd h2 h4
theorem gsY_X11_hasRelation_1_q7 {NF : Nat} {v : Nat → Int32} {f : Nat → Nat → Int32} {w : Int64} {g : Nat → Int64} {n3 : Nat} {l1_3 : Int32} {t11 : Int32} {r15 : Int32} (h0 : ¬ (l1_3 < 0)) (h1 : t11 = f 6 (l1_3).toNatClampNeg) (h2 : (t11 = 20)) (h3 : ¬ (l1_3 < 0)) (h4 : ¬ (t11 = 20)) (h5 : r15 = gsY_X11_tight_1 NF t11 v f w g) (h6 : (r15 = 4)) : gsY_X11_hasRelation_1_L3 NF v f w g (n3 + 1) l1_3 = 1 := by
  exact absurd h2 h4
theorem gsY_X11_hasRelation_1_q8 {NF : Nat} {v : Nat → Int32} {f : Nat → Nat → Int32} {w : Int64} {g : Nat → Int64} {n3 : Nat} {l1_3 : Int32} {t11 : Int32} {r18 : Int32} (h0 : ¬ (l1_3 < 0)) (h1 : t11 = f 6 (l1_3).toNatClampNeg) (h2 : ¬ (t11 = 20)) (h3 : r18 = gsY_X11_tight_1 NF t11 v f w g) (h4 : (r18 ≤ 4)) (h5 : (l1_3 < 0)) : gsY_X11_hasRelation_1_L3 NF v f w g (n3 + 1) l1_3 = 0 := by
  exact absurd h5 h0
theorem gsY_X11_hasRelation_1_q9 {NF : Nat} {v : Nat → Int32} {f : Nat → Nat → Int32} {w : Int64} {g : Nat → Int64} {n3 : Nat} {l1_3 : Int32} {t11 : Int32} {r18 : Int32} (h0 : ¬ (l1_3 < 0)) (h1 : t11 = f 6 (l1_3).toNatClampNeg) (h2 : ¬ (t11 = 20)) (h3 : r18 = gsY_X11_tight_1 NF t11 v f w g) (h4 : (r18 ≤ 4)) (h5 : ¬ (l1_3 < 0)) (h6 : (t11 = 20)) : gsY_X11_hasRelation_1_L3 NF v f w g (n3 + 1) l1_3 = 0 := by
  exact absurd h6 h2
theorem gsY_X11_hasRelation_1_q10 {NF : Nat} {v : Nat → Int32} {f : Nat → Nat → Int32} {w : Int64} {g : Nat → Int64} {n3 : Nat} {l1_3 : Int32} {t11 : Int32} {r18 : Int32} {r23 : Int32} (h0 : ¬ (l1_3 < 0)) (h1 : t11 = f 6 (l1_3).toNatClampNeg) (h2 : ¬ (t11 = 20)) (h3 : r18 = gsY_X11_tight_1 NF t11 v f w g) (h4 : (r18 ≤ 4)) (h5 : ¬ (l1_3 < 0)) (h6 : ¬ (t11 = 20)) (h7 : r23 = gsY_X11_tight_1 NF t11 v f w g) (h8 : ¬ (r23 = 4)) : gsY_X11_hasRelation_1_L3 NF v f w g (n3 + 1) l1_3 = 0 := by
  subst h1 h3 h7
  simp only [gsY_X11_hasRelation_1_L3, if_neg h0, if_neg h2, if_pos h4, if_neg h5, if_neg h6, if_neg h8]
theorem gsY_X11_hasRelation_1_q11 {NF : Nat} {v : Nat → Int32} {f : Nat → Nat → Int32} {w : Int64} {g : Nat → Int64} {n3 : Nat} {l1_3 : Int32} {t11 : Int32} {r18 : Int32} {r23 : Int32} (h0 : ¬ (l1_3 < 0)) (h1 : t11 = f 6 (l1_3).toNatClampNeg) (h2 : ¬ (t11 = 20)) (h3 : r18 = gsY_X11_tight_1 NF t11 v f w g) (h4 : (r18 ≤ 4)) (h5 : ¬ (l1_3 < 0)) (h6 : ¬ (t11 = 20)) (h7 : r23 = gsY_X11_tight_1 NF t11 v f w g) (h8 : (r23 = 4)) : gsY_X11_hasRelation_1_L3 NF v f w g (n3 + 1) l1_3 = 1 := by
  subst h1 h3 h7
  simp only [gsY_X11_hasRelation_1_L3, if_neg h0, if_neg h2, if_pos h4, if_neg h5, if_neg h6, if_pos h8]
theorem gsY_X11_hasRelation_1_q12 {NF : Nat} {v : Nat → Int32} {f : Nat → Nat → Int32} {w : Int64} {g : Nat → Int64} {n3 : Nat} {l1_3 : Int32} {t11 : Int32} {r18 : Int32} {t26 : Int32} (h0 : ¬ (l1_3 < 0)) (h1 : t11 = f 6 (l1_3).toNatClampNeg) (h2 : ¬ (t11 = 20)) (h3 : r18 = gsY_X11_tight_1 NF t11 v f w g) (h4 : ¬ (r18 ≤ 4)) (h5 : t26 = l1_3 + (-1)) : gsY_X11_hasRelation_1_L3 NF v f w g (n3 + 1) l1_3 = gsY_X11_hasRelation_1_L3 NF v f w g n3 t26 := by
  subst h1 h3 h5
  simp only [gsY_X11_hasRelation_1_L3, if_neg h0, if_neg h2, if_neg h4]
def gsY_X11_formula_1_J22 (NF : Nat) (f20 : Nat → Nat → Int32) (g20 : Nat → Int64) (v20 : Nat → Int32) (w20 : Int64) : (Nat → Int32) × (Nat → Nat → Int32) × (Int64) × (Nat → Int64) :=
  if (v20 1) = 0 then
    match gsY_X11_close_1 NF 0 v20 f20 w20 g20 with
    | (v25, f26, w27, g28) =>
      (v25, f26, w27, g28)
  else
    (v20, f20, w20, g20)
def gsY_X11_formula_1_J21 (NF : Nat) (f20 : Nat → Nat → Int32) (g20 : Nat → Int64) (v20 : Nat → Int32) (w20 : Int64) : (Nat → Int32) × (Nat → Nat → Int32) × (Int64) × (Nat → Int64) :=
  if (v20 1) = 0 then
    if gsY_X11_hasBracket_1 NF v20 f20 w20 g20 = 1 then
      match gsY_X11_wrong_1 NF 2 v20 f20 w20 g20 with
      | (v42, f43, w44, g45) =>
        if (v42 1) = 0 then
          match gsY_X11_close_1 NF 0 v42 f43 w44 g45 with
          | (v54, f55, w56, g57) =>
            (v54, f55, w56, g57)
        else
          (v42, f43, w44, g45)
    else
      gsY_X11_formula_1_J22 NF f20 g20 v20 w20
  else
    gsY_X11_formula_1_J22 NF f20 g20 v20 w20
def gsY_X11_formula_1_J71 (NF : Nat) (f20 : Nat → Nat → Int32) (g20 : Nat → Int64) (v20 : Nat → Int32) (w20 : Int64) (k20 : Int32 → (Nat → Int32) → (Nat → Nat → Int32) → Int64 → (Nat → Int64) → ((Nat → Int32) × (Nat → Nat → Int32) × (Int64) × (Nat → Int64))) : (Nat → Int32) × (Nat → Nat → Int32) × (Int64) × (Nat → Int64) :=
  k20 0 v20 f20 w20 g20
def gsY_X11_formula_1_J74 (NF : Nat) (f20 : Nat → Nat → Int32) (g20 : Nat → Int64) (l1_20 : Int32) (v20 : Nat → Int32) (w20 : Int64) (r68 : Int32) (k20 : Int32 → (Nat → Int32) → (Nat → Nat → Int32) → Int64 → (Nat → Int64) → ((Nat → Int32) × (Nat → Nat → Int32) × (Int64) × (Nat → Int64))) : (Nat → Int32) × (Nat → Nat → Int32) × (Int64) × (Nat → Int64) :=
  let r75 : Int32 := gsY_X11_tight_1 NF r68 v20 f20 w20 g20
  match gsY_X11_close_1 NF r75 v20 f20 w20 g20 with
  | (v78, f79, w80, g81) =>
    let f90 : Nat → Nat → Int32 := upd2 f79 6 (upd (f79 6) (v78 10).toNatClampNeg r68)
    let t91 : Int32 := (v78 10) + 1
    match gsY_X11_token_1 NF (upd v78 10 t91) f90 w80 g81 with
    | (v94, f95, w96, g97) =>
      match gsY_X11_unit_1 NF v94 f95 w96 g97 with
      | (v104, f105, w106, g107) =>
        k20 l1_20 v104 f105 w106 g107
def gsY_X11_formula_1_J72 (NF : Nat) (f20 : Nat → Nat → Int32) (g20 : Nat → Int64) (l1_20 : Int32) (v20 : Nat → Int32) (w20 : Int64) (r68 : Int32) (k20 : Int32 → (Nat → Int32) → (Nat → Nat → Int32) → Int64 → (Nat → Int64) → ((Nat → Int32) × (Nat → Nat → Int32) × (Int64) × (Nat → Int64))) : (Nat → Int32) × (Nat → Nat → Int32) × (Int64) × (Nat → Int64) :=
  if r68 = 0 then
    gsY_X11_formula_1_J71 NF f20 g20 v20 w20 k20
  else
    let r113 : Int32 := gsY_X11_tight_1 NF r68 v20 f20 w20 g20
    if r113 = 4 then
      if gsY_X11_hasRelation_1 NF v20 f20 w20 g20 = 1 then
        gsY_X11_formula_1_J71 NF f20 g20 v20 w20 k20
      else
        gsY_X11_formula_1_J74 NF f20 g20 l1_20 v20 w20 r68 k20
    else
      gsY_X11_formula_1_J74 NF f20 g20 l1_20 v20 w20 r68 k20
def gsY_X11_formula_1_L20 (NF : Nat) : Nat → (Int32) → (Nat → Int32) → (Nat → Nat → Int32) → (Int64) → (Nat → Int64) → (Nat → Int32) × (Nat → Nat → Int32) × (Int64) × (Nat → Int64)
  | 0, _, _, _, _, _ => ((fun _ => 0), (fun _ _ => 0), 0, (fun _ => 0))
  | n20 + 1, l1_20, v20, f20, w20, g20 =>
    if l1_20 = 0 then
      gsY_X11_formula_1_J21 NF f20 g20 v20 w20
    else
      if (v20 1) = 0 then
        let r68 : Int32 := gsY_X11_sign_1 NF v20 f20 w20 g20
        if (v20 5) = 41 then
          if gsY_X11_hasBracket_1 NF v20 f20 w20 g20 = 1 then
            match gsY_X11_close_1 NF 0 v20 f20 w20 g20 with
            | (v124, f125, w126, g127) =>
              let t136 : Int32 := (v124 10) - 1
              let t138 : Int32 := (v124 14) - 1
              match gsY_X11_token_1 NF (upd (upd v124 10 t136) 14 t138) f125 w126 g127 with
              | (v141, f142, w143, g144) =>
                gsY_X11_formula_1_L20 NF n20 l1_20 v141 f142 w143 g144
          else
            gsY_X11_formula_1_J72 NF f20 g20 l1_20 v20 w20 r68 (fun z0 z1 z2 z3 z4 => gsY_X11_formula_1_L20 NF n20 z0 z1 z2 z3 z4)
        else
          gsY_X11_formula_1_J72 NF f20 g20 l1_20 v20 w20 r68 (fun z0 z1 z2 z3 z4 => gsY_X11_formula_1_L20 NF n20 z0 z1 z2 z3 z4)
      else
        gsY_X11_formula_1_J21 NF f20 g20 v20 w20
def gsY_X11_formula_1 (NF : Nat) (v : Nat → Int32) (f : Nat → Nat → Int32) (w : Int64) (g : Nat → Int64) : (Nat → Int32) × (Nat → Nat → Int32) × (Int64) × (Nat → Int64) :=
  match gsY_X11_token_1 NF v f w g with
  | (v2, f3, w4, g5) =>
    match gsY_X11_unit_1 NF (upd (upd (upd (upd (upd v2 15 1) 8 0) 10 0) 14 0) 13 0) f3 w4 g5 with
    | (v12, f13, w14, g15) =>
      gsY_X11_formula_1_L20 NF (4294967296 + NF) 1 v12 f13 w14 g15
theorem gsY_X11_formula_1_q17 {NF : Nat} {v : Nat → Int32} {f : Nat → Nat → Int32} {w : Int64} {g : Nat → Int64} {v2 : Nat → Int32} {f3 : Nat → Nat → Int32} {w4 : Int64} {g5 : Nat → Int64} {v12 : Nat → Int32} {f13 : Nat → Nat → Int32} {w14 : Int64} {g15 : Nat → Int64} (h0 : gsY_X11_token_1 NF v f w g = (v2, f3, w4, g5)) (h1 : gsY_X11_unit_1 NF (upd (upd (upd (upd (upd v2 15 1) 8 0) 10 0) 14 0) 13 0) f3 w4 g5 = (v12, f13, w14, g15)) : gsY_X11_formula_1 NF v f w g = gsY_X11_formula_1_L20 NF (4294967296 + NF) 1 v12 f13 w14 g15 := by
  simp only [gsY_X11_formula_1, h0, h1]
theorem gsY_X11_formula_1_q6 {NF : Nat} {n20 : Nat} {l1_20 : Int32} {v20 : Nat → Int32} {f20 : Nat → Nat → Int32} {w20 : Int64} {g20 : Nat → Int64} (h0 : (l1_20 = 0)) : gsY_X11_formula_1_L20 NF (n20 + 1) l1_20 v20 f20 w20 g20 = gsY_X11_formula_1_J21 NF f20 g20 v20 w20 := by
  simp only [gsY_X11_formula_1_L20, if_pos h0]
theorem gsY_X11_formula_1_q7 {NF : Nat} {n20 : Nat} {l1_20 : Int32} {v20 : Nat → Int32} {f20 : Nat → Nat → Int32} {w20 : Int64} {g20 : Nat → Int64} (h0 : ¬ (l1_20 = 0)) (h1 : ¬ ((v20 1) = 0)) : gsY_X11_formula_1_L20 NF (n20 + 1) l1_20 v20 f20 w20 g20 = gsY_X11_formula_1_J21 NF f20 g20 v20 w20 := by
  simp only [gsY_X11_formula_1_L20, if_neg h0, if_neg h1]
theorem gsY_X11_formula_1_q14 {NF : Nat} {n20 : Nat} {l1_20 : Int32} {v20 : Nat → Int32} {f20 : Nat → Nat → Int32} {w20 : Int64} {g20 : Nat → Int64} {r68 : Int32} (h0 : ¬ (l1_20 = 0)) (h1 : ((v20 1) = 0)) (h2 : r68 = gsY_X11_sign_1 NF v20 f20 w20 g20) (h3 : ¬ ((v20 5) = 41)) : gsY_X11_formula_1_L20 NF (n20 + 1) l1_20 v20 f20 w20 g20 = gsY_X11_formula_1_J72 NF f20 g20 l1_20 v20 w20 r68 (fun z0 z1 z2 z3 z4 => gsY_X11_formula_1_L20 NF n20 z0 z1 z2 z3 z4) := by
  subst h2
  simp only [gsY_X11_formula_1_L20, if_neg h0, if_pos h1, if_neg h3]
theorem gsY_X11_formula_1_q15 {NF : Nat} {n20 : Nat} {l1_20 : Int32} {v20 : Nat → Int32} {f20 : Nat → Nat → Int32} {w20 : Int64} {g20 : Nat → Int64} {r68 : Int32} {v124 : Nat → Int32} {f125 : Nat → Nat → Int32} {w126 : Int64} {g127 : Nat → Int64} {t136 : Int32} {t138 : Int32} {v141 : Nat → Int32} {f142 : Nat → Nat → Int32} {w143 : Int64} {g144 : Nat → Int64} (h0 : ¬ (l1_20 = 0)) (h1 : ((v20 1) = 0)) (h2 : r68 = gsY_X11_sign_1 NF v20 f20 w20 g20) (h3 : ((v20 5) = 41)) (h4 : gsY_X11_hasBracket_1 NF v20 f20 w20 g20 = 1) (h5 : gsY_X11_close_1 NF 0 v20 f20 w20 g20 = (v124, f125, w126, g127)) (h6 : t136 = (v124 10) - 1) (h7 : t138 = (v124 14) - 1) (h8 : gsY_X11_token_1 NF (upd (upd v124 10 t136) 14 t138) f125 w126 g127 = (v141, f142, w143, g144)) : gsY_X11_formula_1_L20 NF (n20 + 1) l1_20 v20 f20 w20 g20 = gsY_X11_formula_1_L20 NF n20 l1_20 v141 f142 w143 g144 := by
  subst h2 h6 h7
  simp only [gsY_X11_formula_1_L20, if_neg h0, if_pos h1, if_pos h3, h4, h5, h8, ite11, ite01, if_true, if_false]
theorem gsY_X11_formula_1_q16 {NF : Nat} {n20 : Nat} {l1_20 : Int32} {v20 : Nat → Int32} {f20 : Nat → Nat → Int32} {w20 : Int64} {g20 : Nat → Int64} {r68 : Int32} (h0 : ¬ (l1_20 = 0)) (h1 : ((v20 1) = 0)) (h2 : r68 = gsY_X11_sign_1 NF v20 f20 w20 g20) (h3 : ((v20 5) = 41)) (h4 : gsY_X11_hasBracket_1 NF v20 f20 w20 g20 = 0) : gsY_X11_formula_1_L20 NF (n20 + 1) l1_20 v20 f20 w20 g20 = gsY_X11_formula_1_J72 NF f20 g20 l1_20 v20 w20 r68 (fun z0 z1 z2 z3 z4 => gsY_X11_formula_1_L20 NF n20 z0 z1 z2 z3 z4) := by
  subst h2
  simp only [gsY_X11_formula_1_L20, if_neg h0, if_pos h1, if_pos h3, h4, ite11, ite01, if_true, if_false]
theorem gsY_X11_formula_1_q2 {NF : Nat} {f20 : Nat → Nat → Int32} {g20 : Nat → Int64} {v20 : Nat → Int32} {w20 : Int64} (h0 : ¬ ((v20 1) = 0)) : gsY_X11_formula_1_J21 NF f20 g20 v20 w20 = gsY_X11_formula_1_J22 NF f20 g20 v20 w20 := by
  simp only [gsY_X11_formula_1_J21, if_neg h0]
theorem gsY_X11_formula_1_q3 {NF : Nat} {f20 : Nat → Nat → Int32} {g20 : Nat → Int64} {v20 : Nat → Int32} {w20 : Int64} {v42 : Nat → Int32} {f43 : Nat → Nat → Int32} {w44 : Int64} {g45 : Nat → Int64} (h0 : ((v20 1) = 0)) (h1 : gsY_X11_hasBracket_1 NF v20 f20 w20 g20 = 1) (h2 : gsY_X11_wrong_1 NF 2 v20 f20 w20 g20 = (v42, f43, w44, g45)) (h3 : ¬ ((v42 1) = 0)) : gsY_X11_formula_1_J21 NF f20 g20 v20 w20 = (v42, f43, w44, g45) := by
  simp only [gsY_X11_formula_1_J21, if_pos h0, h1, h2, if_neg h3, ite11, ite01, if_true, if_false]
theorem gsY_X11_formula_1_q4 {NF : Nat} {f20 : Nat → Nat → Int32} {g20 : Nat → Int64} {v20 : Nat → Int32} {w20 : Int64} {v42 : Nat → Int32} {f43 : Nat → Nat → Int32} {w44 : Int64} {g45 : Nat → Int64} {v54 : Nat → Int32} {f55 : Nat → Nat → Int32} {w56 : Int64} {g57 : Nat → Int64} (h0 : ((v20 1) = 0)) (h1 : gsY_X11_hasBracket_1 NF v20 f20 w20 g20 = 1) (h2 : gsY_X11_wrong_1 NF 2 v20 f20 w20 g20 = (v42, f43, w44, g45)) (h3 : ((v42 1) = 0)) (h4 : gsY_X11_close_1 NF 0 v42 f43 w44 g45 = (v54, f55, w56, g57)) : gsY_X11_formula_1_J21 NF f20 g20 v20 w20 = (v54, f55, w56, g57) := by
  simp only [gsY_X11_formula_1_J21, if_pos h0, h1, h2, if_pos h3, h4, ite11, ite01, if_true, if_false]
theorem gsY_X11_formula_1_q5 {NF : Nat} {f20 : Nat → Nat → Int32} {g20 : Nat → Int64} {v20 : Nat → Int32} {w20 : Int64} (h0 : ((v20 1) = 0)) (h1 : gsY_X11_hasBracket_1 NF v20 f20 w20 g20 = 0) : gsY_X11_formula_1_J21 NF f20 g20 v20 w20 = gsY_X11_formula_1_J22 NF f20 g20 v20 w20 := by
  simp only [gsY_X11_formula_1_J21, if_pos h0, h1, ite11, ite01, if_true, if_false]
theorem gsY_X11_formula_1_q0 {NF : Nat} {f20 : Nat → Nat → Int32} {g20 : Nat → Int64} {v20 : Nat → Int32} {w20 : Int64} (h0 : ¬ ((v20 1) = 0)) : gsY_X11_formula_1_J22 NF f20 g20 v20 w20 = (v20, f20, w20, g20) := by
  simp only [gsY_X11_formula_1_J22, if_neg h0]
theorem gsY_X11_formula_1_q1 {NF : Nat} {f20 : Nat → Nat → Int32} {g20 : Nat → Int64} {v20 : Nat → Int32} {w20 : Int64} {v25 : Nat → Int32} {f26 : Nat → Nat → Int32} {w27 : Int64} {g28 : Nat → Int64} (h0 : ((v20 1) = 0)) (h1 : gsY_X11_close_1 NF 0 v20 f20 w20 g20 = (v25, f26, w27, g28)) : gsY_X11_formula_1_J22 NF f20 g20 v20 w20 = (v25, f26, w27, g28) := by
  simp only [gsY_X11_formula_1_J22, if_pos h0, h1]
theorem gsY_X11_formula_1_q8 {NF : Nat} {f20 : Nat → Nat → Int32} {g20 : Nat → Int64} {v20 : Nat → Int32} {w20 : Int64} {k20 : Int32 → (Nat → Int32) → (Nat → Nat → Int32) → Int64 → (Nat → Int64) → ((Nat → Int32) × (Nat → Nat → Int32) × (Int64) × (Nat → Int64))}  : gsY_X11_formula_1_J71 NF f20 g20 v20 w20 k20 = k20 0 v20 f20 w20 g20 := by
  simp only [gsY_X11_formula_1_J71]
theorem gsY_X11_formula_1_q9 {NF : Nat} {f20 : Nat → Nat → Int32} {g20 : Nat → Int64} {l1_20 : Int32} {v20 : Nat → Int32} {w20 : Int64} {r68 : Int32} {k20 : Int32 → (Nat → Int32) → (Nat → Nat → Int32) → Int64 → (Nat → Int64) → ((Nat → Int32) × (Nat → Nat → Int32) × (Int64) × (Nat → Int64))} (h0 : (r68 = 0)) : gsY_X11_formula_1_J72 NF f20 g20 l1_20 v20 w20 r68 k20 = gsY_X11_formula_1_J71 NF f20 g20 v20 w20 k20 := by
  simp only [gsY_X11_formula_1_J72, if_pos h0]
theorem gsY_X11_formula_1_q11 {NF : Nat} {f20 : Nat → Nat → Int32} {g20 : Nat → Int64} {l1_20 : Int32} {v20 : Nat → Int32} {w20 : Int64} {r68 : Int32} {r113 : Int32} {k20 : Int32 → (Nat → Int32) → (Nat → Nat → Int32) → Int64 → (Nat → Int64) → ((Nat → Int32) × (Nat → Nat → Int32) × (Int64) × (Nat → Int64))} (h0 : ¬ (r68 = 0)) (h1 : r113 = gsY_X11_tight_1 NF r68 v20 f20 w20 g20) (h2 : ¬ (r113 = 4)) : gsY_X11_formula_1_J72 NF f20 g20 l1_20 v20 w20 r68 k20 = gsY_X11_formula_1_J74 NF f20 g20 l1_20 v20 w20 r68 k20 := by
  subst h1
  simp only [gsY_X11_formula_1_J72, if_neg h0, if_neg h2]
theorem gsY_X11_formula_1_q12 {NF : Nat} {f20 : Nat → Nat → Int32} {g20 : Nat → Int64} {l1_20 : Int32} {v20 : Nat → Int32} {w20 : Int64} {r68 : Int32} {r113 : Int32} {k20 : Int32 → (Nat → Int32) → (Nat → Nat → Int32) → Int64 → (Nat → Int64) → ((Nat → Int32) × (Nat → Nat → Int32) × (Int64) × (Nat → Int64))} (h0 : ¬ (r68 = 0)) (h1 : r113 = gsY_X11_tight_1 NF r68 v20 f20 w20 g20) (h2 : (r113 = 4)) (h3 : gsY_X11_hasRelation_1 NF v20 f20 w20 g20 = 1) : gsY_X11_formula_1_J72 NF f20 g20 l1_20 v20 w20 r68 k20 = gsY_X11_formula_1_J71 NF f20 g20 v20 w20 k20 := by
  subst h1
  simp only [gsY_X11_formula_1_J72, if_neg h0, if_pos h2, h3, ite11, ite01, if_true, if_false]
theorem gsY_X11_formula_1_q13 {NF : Nat} {f20 : Nat → Nat → Int32} {g20 : Nat → Int64} {l1_20 : Int32} {v20 : Nat → Int32} {w20 : Int64} {r68 : Int32} {r113 : Int32} {k20 : Int32 → (Nat → Int32) → (Nat → Nat → Int32) → Int64 → (Nat → Int64) → ((Nat → Int32) × (Nat → Nat → Int32) × (Int64) × (Nat → Int64))} (h0 : ¬ (r68 = 0)) (h1 : r113 = gsY_X11_tight_1 NF r68 v20 f20 w20 g20) (h2 : (r113 = 4)) (h3 : gsY_X11_hasRelation_1 NF v20 f20 w20 g20 = 0) : gsY_X11_formula_1_J72 NF f20 g20 l1_20 v20 w20 r68 k20 = gsY_X11_formula_1_J74 NF f20 g20 l1_20 v20 w20 r68 k20 := by
  subst h1
  simp only [gsY_X11_formula_1_J72, if_neg h0, if_pos h2, h3, ite11, ite01, if_true, if_false]
theorem gsY_X11_formula_1_q10 {NF : Nat} {f20 : Nat → Nat → Int32} {g20 : Nat → Int64} {l1_20 : Int32} {v20 : Nat → Int32} {w20 : Int64} {r68 : Int32} {r75 : Int32} {v78 : Nat → Int32} {f79 : Nat → Nat → Int32} {w80 : Int64} {g81 : Nat → Int64} {f90 : Nat → Nat → Int32} {t91 : Int32} {v94 : Nat → Int32} {f95 : Nat → Nat → Int32} {w96 : Int64} {g97 : Nat → Int64} {v104 : Nat → Int32} {f105 : Nat → Nat → Int32} {w106 : Int64} {g107 : Nat → Int64} {k20 : Int32 → (Nat → Int32) → (Nat → Nat → Int32) → Int64 → (Nat → Int64) → ((Nat → Int32) × (Nat → Nat → Int32) × (Int64) × (Nat → Int64))} (h0 : r75 = gsY_X11_tight_1 NF r68 v20 f20 w20 g20) (h1 : gsY_X11_close_1 NF r75 v20 f20 w20 g20 = (v78, f79, w80, g81)) (h2 : f90 = upd2 f79 6 (upd (f79 6) (v78 10).toNatClampNeg r68)) (h3 : t91 = (v78 10) + 1) (h4 : gsY_X11_token_1 NF (upd v78 10 t91) f90 w80 g81 = (v94, f95, w96, g97)) (h5 : gsY_X11_unit_1 NF v94 f95 w96 g97 = (v104, f105, w106, g107)) : gsY_X11_formula_1_J74 NF f20 g20 l1_20 v20 w20 r68 k20 = k20 l1_20 v104 f105 w106 g107 := by
  subst h0 h2 h3
  simp only [gsY_X11_formula_1_J74, h1, h4, h5]
def gsY_X11_isOwn_1 (NF : Nat) (v : Nat → Int32) (f : Nat → Nat → Int32) (w : Int64) (g : Nat → Int64) : Int32 :=
  let t1 : Int32 := lg_cmp w (7168366 : Int64)
  if t1 = 0 then
    1
  else
    let t3 : Int32 := lg_cmp w (1952541804 : Int64)
    if t3 = 0 then
      1
    else
      let t5 : Int32 := lg_cmp w (2003395685 : Int64)
      if t5 = 0 then
        1
      else
        let t7 : Int32 := lg_cmp w (444301539187 : Int64)
        if t7 = 0 then
          1
        else
          let t9 : Int32 := lg_cmp w (1668243828 : Int64)
          if t9 = 0 then
            1
          else
            let t11 : Int32 := lg_cmp w (1936023917 : Int64)
            if t11 = 0 then
              1
            else
              let t13 : Int32 := lg_cmp w (2003792494 : Int64)
              if t13 = 0 then
                1
              else
                let t15 : Int32 := lg_cmp w (6909036 : Int64)
                if t15 = 0 then
                  1
                else
                  let t17 : Int32 := lg_cmp w (1700885369 : Int64)
                  if t17 = 0 then
                    1
                  else
                    let t19 : Int32 := lg_cmp w (1651469428 : Int64)
                    if t19 = 0 then
                      1
                    else
                      let t21 : Int32 := lg_cmp w (1818848101 : Int64)
                      if t21 = 0 then
                        1
                      else
                        let t23 : Int32 := lg_cmp w (1918986606 : Int64)
                        if t23 = 0 then
                          1
                        else
                          let t25 : Int32 := lg_cmp w (1685217655 : Int64)
                          if t25 = 0 then
                            1
                          else
                            let t27 : Int32 := lg_cmp w (499984590964 : Int64)
                            if t27 = 0 then
                              1
                            else
                              let t29 : Int32 := lg_cmp w (465726042981 : Int64)
                              if t29 = 0 then
                                1
                              else
                                let t31 : Int32 := lg_cmp w (495673373300 : Int64)
                                if t31 = 0 then
                                  1
                                else
                                  let t33 : Int32 := lg_cmp w (1819242087 : Int64)
                                  if t33 = 0 then
                                    1
                                  else
                                    let t35 : Int32 := lg_cmp w (6578553 : Int64)
                                    if t35 = 0 then
                                      1
                                    else
                                      let t37 : Int32 := lg_cmp w (6385252 : Int64)
                                      if t37 = 0 then
                                        1
                                      else
                                        let t39 : Int32 := lg_cmp w (28530 : Int64)
                                        if t39 = 0 then
                                          1
                                        else
                                          let t41 : Int32 := lg_cmp w (7237492 : Int64)
                                          if t41 = 0 then
                                            1
                                          else
                                            0
theorem gsY_X11_isOwn_1_q0 {NF : Nat} {v : Nat → Int32} {f : Nat → Nat → Int32} {w : Int64} {g : Nat → Int64} {t1 : Int32} (h0 : t1 = lg_cmp w (7168366 : Int64)) (h1 : (t1 = 0)) : gsY_X11_isOwn_1 NF v f w g = 1 := by
  subst h0
  simp only [gsY_X11_isOwn_1, if_pos h1]
theorem gsY_X11_isOwn_1_q1 {NF : Nat} {v : Nat → Int32} {f : Nat → Nat → Int32} {w : Int64} {g : Nat → Int64} {t1 : Int32} {t3 : Int32} (h0 : t1 = lg_cmp w (7168366 : Int64)) (h1 : ¬ (t1 = 0)) (h2 : t3 = lg_cmp w (1952541804 : Int64)) (h3 : (t3 = 0)) : gsY_X11_isOwn_1 NF v f w g = 1 := by
  subst h0 h2
  simp only [gsY_X11_isOwn_1, if_neg h1, if_pos h3]
theorem gsY_X11_isOwn_1_q2 {NF : Nat} {v : Nat → Int32} {f : Nat → Nat → Int32} {w : Int64} {g : Nat → Int64} {t1 : Int32} {t3 : Int32} {t5 : Int32} (h0 : t1 = lg_cmp w (7168366 : Int64)) (h1 : ¬ (t1 = 0)) (h2 : t3 = lg_cmp w (1952541804 : Int64)) (h3 : ¬ (t3 = 0)) (h4 : t5 = lg_cmp w (2003395685 : Int64)) (h5 : (t5 = 0)) : gsY_X11_isOwn_1 NF v f w g = 1 := by
  subst h0 h2 h4
  simp only [gsY_X11_isOwn_1, if_neg h1, if_neg h3, if_pos h5]
theorem gsY_X11_isOwn_1_q3 {NF : Nat} {v : Nat → Int32} {f : Nat → Nat → Int32} {w : Int64} {g : Nat → Int64} {t1 : Int32} {t3 : Int32} {t5 : Int32} {t7 : Int32} (h0 : t1 = lg_cmp w (7168366 : Int64)) (h1 : ¬ (t1 = 0)) (h2 : t3 = lg_cmp w (1952541804 : Int64)) (h3 : ¬ (t3 = 0)) (h4 : t5 = lg_cmp w (2003395685 : Int64)) (h5 : ¬ (t5 = 0)) (h6 : t7 = lg_cmp w (444301539187 : Int64)) (h7 : (t7 = 0)) : gsY_X11_isOwn_1 NF v f w g = 1 := by
  subst h0 h2 h4 h6
  simp only [gsY_X11_isOwn_1, if_neg h1, if_neg h3, if_neg h5, if_pos h7]
theorem gsY_X11_isOwn_1_q4 {NF : Nat} {v : Nat → Int32} {f : Nat → Nat → Int32} {w : Int64} {g : Nat → Int64} {t1 : Int32} {t3 : Int32} {t5 : Int32} {t7 : Int32} {t9 : Int32} (h0 : t1 = lg_cmp w (7168366 : Int64)) (h1 : ¬ (t1 = 0)) (h2 : t3 = lg_cmp w (1952541804 : Int64)) (h3 : ¬ (t3 = 0)) (h4 : t5 = lg_cmp w (2003395685 : Int64)) (h5 : ¬ (t5 = 0)) (h6 : t7 = lg_cmp w (444301539187 : Int64)) (h7 : ¬ (t7 = 0)) (h8 : t9 = lg_cmp w (1668243828 : Int64)) (h9 : (t9 = 0)) : gsY_X11_isOwn_1 NF v f w g = 1 := by
  subst h0 h2 h4 h6 h8
  simp only [gsY_X11_isOwn_1, if_neg h1, if_neg h3, if_neg h5, if_neg h7, if_pos h9]
theorem gsY_X11_isOwn_1_q5 {NF : Nat} {v : Nat → Int32} {f : Nat → Nat → Int32} {w : Int64} {g : Nat → Int64} {t1 : Int32} {t3 : Int32} {t5 : Int32} {t7 : Int32} {t9 : Int32} {t11 : Int32} (h0 : t1 = lg_cmp w (7168366 : Int64)) (h1 : ¬ (t1 = 0)) (h2 : t3 = lg_cmp w (1952541804 : Int64)) (h3 : ¬ (t3 = 0)) (h4 : t5 = lg_cmp w (2003395685 : Int64)) (h5 : ¬ (t5 = 0)) (h6 : t7 = lg_cmp w (444301539187 : Int64)) (h7 : ¬ (t7 = 0)) (h8 : t9 = lg_cmp w (1668243828 : Int64)) (h9 : ¬ (t9 = 0)) (h10 : t11 = lg_cmp w (1936023917 : Int64)) (h11 : (t11 = 0)) : gsY_X11_isOwn_1 NF v f w g = 1 := by
  subst h0 h2 h4 h6 h8 h10
  simp only [gsY_X11_isOwn_1, if_neg h1, if_neg h3, if_neg h5, if_neg h7, if_neg h9, if_pos h11]
theorem gsY_X11_isOwn_1_q6 {NF : Nat} {v : Nat → Int32} {f : Nat → Nat → Int32} {w : Int64} {g : Nat → Int64} {t1 : Int32} {t3 : Int32} {t5 : Int32} {t7 : Int32} {t9 : Int32} {t11 : Int32} {t13 : Int32} (h0 : t1 = lg_cmp w (7168366 : Int64)) (h1 : ¬ (t1 = 0)) (h2 : t3 = lg_cmp w (1952541804 : Int64)) (h3 : ¬ (t3 = 0)) (h4 : t5 = lg_cmp w (2003395685 : Int64)) (h5 : ¬ (t5 = 0)) (h6 : t7 = lg_cmp w (444301539187 : Int64)) (h7 : ¬ (t7 = 0)) (h8 : t9 = lg_cmp w (1668243828 : Int64)) (h9 : ¬ (t9 = 0)) (h10 : t11 = lg_cmp w (1936023917 : Int64)) (h11 : ¬ (t11 = 0)) (h12 : t13 = lg_cmp w (2003792494 : Int64)) (h13 : (t13 = 0)) : gsY_X11_isOwn_1 NF v f w g = 1 := by
  subst h0 h2 h4 h6 h8 h10 h12
  simp only [gsY_X11_isOwn_1, if_neg h1, if_neg h3, if_neg h5, if_neg h7, if_neg h9, if_neg h11, if_pos h13]
theorem gsY_X11_isOwn_1_q7 {NF : Nat} {v : Nat → Int32} {f : Nat → Nat → Int32} {w : Int64} {g : Nat → Int64} {t1 : Int32} {t3 : Int32} {t5 : Int32} {t7 : Int32} {t9 : Int32} {t11 : Int32} {t13 : Int32} {t15 : Int32} (h0 : t1 = lg_cmp w (7168366 : Int64)) (h1 : ¬ (t1 = 0)) (h2 : t3 = lg_cmp w (1952541804 : Int64)) (h3 : ¬ (t3 = 0)) (h4 : t5 = lg_cmp w (2003395685 : Int64)) (h5 : ¬ (t5 = 0)) (h6 : t7 = lg_cmp w (444301539187 : Int64)) (h7 : ¬ (t7 = 0)) (h8 : t9 = lg_cmp w (1668243828 : Int64)) (h9 : ¬ (t9 = 0)) (h10 : t11 = lg_cmp w (1936023917 : Int64)) (h11 : ¬ (t11 = 0)) (h12 : t13 = lg_cmp w (2003792494 : Int64)) (h13 : ¬ (t13 = 0)) (h14 : t15 = lg_cmp w (6909036 : Int64)) (h15 : (t15 = 0)) : gsY_X11_isOwn_1 NF v f w g = 1 := by
  subst h0 h2 h4 h6 h8 h10 h12 h14
  simp only [gsY_X11_isOwn_1, if_neg h1, if_neg h3, if_neg h5, if_neg h7, if_neg h9, if_neg h11, if_neg h13, if_pos h15]
theorem gsY_X11_isOwn_1_q8 {NF : Nat} {v : Nat → Int32} {f : Nat → Nat → Int32} {w : Int64} {g : Nat → Int64} {t1 : Int32} {t3 : Int32} {t5 : Int32} {t7 : Int32} {t9 : Int32} {t11 : Int32} {t13 : Int32} {t15 : Int32} {t17 : Int32} (h0 : t1 = lg_cmp w (7168366 : Int64)) (h1 : ¬ (t1 = 0)) (h2 : t3 = lg_cmp w (1952541804 : Int64)) (h3 : ¬ (t3 = 0)) (h4 : t5 = lg_cmp w (2003395685 : Int64)) (h5 : ¬ (t5 = 0)) (h6 : t7 = lg_cmp w (444301539187 : Int64)) (h7 : ¬ (t7 = 0)) (h8 : t9 = lg_cmp w (1668243828 : Int64)) (h9 : ¬ (t9 = 0)) (h10 : t11 = lg_cmp w (1936023917 : Int64)) (h11 : ¬ (t11 = 0)) (h12 : t13 = lg_cmp w (2003792494 : Int64)) (h13 : ¬ (t13 = 0)) (h14 : t15 = lg_cmp w (6909036 : Int64)) (h15 : ¬ (t15 = 0)) (h16 : t17 = lg_cmp w (1700885369 : Int64)) (h17 : (t17 = 0)) : gsY_X11_isOwn_1 NF v f w g = 1 := by
  subst h0 h2 h4 h6 h8 h10 h12 h14 h16
  simp only [gsY_X11_isOwn_1, if_neg h1, if_neg h3, if_neg h5, if_neg h7, if_neg h9, if_neg h11, if_neg h13, if_neg h15, if_pos h17]
theorem gsY_X11_isOwn_1_q9 {NF : Nat} {v : Nat → Int32} {f : Nat → Nat → Int32} {w : Int64} {g : Nat → Int64} {t1 : Int32} {t3 : Int32} {t5 : Int32} {t7 : Int32} {t9 : Int32} {t11 : Int32} {t13 : Int32} {t15 : Int32} {t17 : Int32} {t19 : Int32} (h0 : t1 = lg_cmp w (7168366 : Int64)) (h1 : ¬ (t1 = 0)) (h2 : t3 = lg_cmp w (1952541804 : Int64)) (h3 : ¬ (t3 = 0)) (h4 : t5 = lg_cmp w (2003395685 : Int64)) (h5 : ¬ (t5 = 0)) (h6 : t7 = lg_cmp w (444301539187 : Int64)) (h7 : ¬ (t7 = 0)) (h8 : t9 = lg_cmp w (1668243828 : Int64)) (h9 : ¬ (t9 = 0)) (h10 : t11 = lg_cmp w (1936023917 : Int64)) (h11 : ¬ (t11 = 0)) (h12 : t13 = lg_cmp w (2003792494 : Int64)) (h13 : ¬ (t13 = 0)) (h14 : t15 = lg_cmp w (6909036 : Int64)) (h15 : ¬ (t15 = 0)) (h16 : t17 = lg_cmp w (1700885369 : Int64)) (h17 : ¬ (t17 = 0)) (h18 : t19 = lg_cmp w (1651469428 : Int64)) (h19 : (t19 = 0)) : gsY_X11_isOwn_1 NF v f w g = 1 := by
  subst h0 h2 h4 h6 h8 h10 h12 h14 h16 h18
  simp only [gsY_X11_isOwn_1, if_neg h1, if_neg h3, if_neg h5, if_neg h7, if_neg h9, if_neg h11, if_neg h13, if_neg h15, if_neg h17, if_pos h19]
theorem gsY_X11_isOwn_1_q10 {NF : Nat} {v : Nat → Int32} {f : Nat → Nat → Int32} {w : Int64} {g : Nat → Int64} {t1 : Int32} {t3 : Int32} {t5 : Int32} {t7 : Int32} {t9 : Int32} {t11 : Int32} {t13 : Int32} {t15 : Int32} {t17 : Int32} {t19 : Int32} {t21 : Int32} (h0 : t1 = lg_cmp w (7168366 : Int64)) (h1 : ¬ (t1 = 0)) (h2 : t3 = lg_cmp w (1952541804 : Int64)) (h3 : ¬ (t3 = 0)) (h4 : t5 = lg_cmp w (2003395685 : Int64)) (h5 : ¬ (t5 = 0)) (h6 : t7 = lg_cmp w (444301539187 : Int64)) (h7 : ¬ (t7 = 0)) (h8 : t9 = lg_cmp w (1668243828 : Int64)) (h9 : ¬ (t9 = 0)) (h10 : t11 = lg_cmp w (1936023917 : Int64)) (h11 : ¬ (t11 = 0)) (h12 : t13 = lg_cmp w (2003792494 : Int64)) (h13 : ¬ (t13 = 0)) (h14 : t15 = lg_cmp w (6909036 : Int64)) (h15 : ¬ (t15 = 0)) (h16 : t17 = lg_cmp w (1700885369 : Int64)) (h17 : ¬ (t17 = 0)) (h18 : t19 = lg_cmp w (1651469428 : Int64)) (h19 : ¬ (t19 = 0)) (h20 : t21 = lg_cmp w (1818848101 : Int64)) (h21 : (t21 = 0)) : gsY_X11_isOwn_1 NF v f w g = 1 := by
  subst h0 h2 h4 h6 h8 h10 h12 h14 h16 h18 h20
  simp only [gsY_X11_isOwn_1, if_neg h1, if_neg h3, if_neg h5, if_neg h7, if_neg h9, if_neg h11, if_neg h13, if_neg h15, if_neg h17, if_neg h19, if_pos h21]
theorem gsY_X11_isOwn_1_q11 {NF : Nat} {v : Nat → Int32} {f : Nat → Nat → Int32} {w : Int64} {g : Nat → Int64} {t1 : Int32} {t3 : Int32} {t5 : Int32} {t7 : Int32} {t9 : Int32} {t11 : Int32} {t13 : Int32} {t15 : Int32} {t17 : Int32} {t19 : Int32} {t21 : Int32} {t23 : Int32} (h0 : t1 = lg_cmp w (7168366 : Int64)) (h1 : ¬ (t1 = 0)) (h2 : t3 = lg_cmp w (1952541804 : Int64)) (h3 : ¬ (t3 = 0)) (h4 : t5 = lg_cmp w (2003395685 : Int64)) (h5 : ¬ (t5 = 0)) (h6 : t7 = lg_cmp w (444301539187 : Int64)) (h7 : ¬ (t7 = 0)) (h8 : t9 = lg_cmp w (1668243828 : Int64)) (h9 : ¬ (t9 = 0)) (h10 : t11 = lg_cmp w (1936023917 : Int64)) (h11 : ¬ (t11 = 0)) (h12 : t13 = lg_cmp w (2003792494 : Int64)) (h13 : ¬ (t13 = 0)) (h14 : t15 = lg_cmp w (6909036 : Int64)) (h15 : ¬ (t15 = 0)) (h16 : t17 = lg_cmp w (1700885369 : Int64)) (h17 : ¬ (t17 = 0)) (h18 : t19 = lg_cmp w (1651469428 : Int64)) (h19 : ¬ (t19 = 0)) (h20 : t21 = lg_cmp w (1818848101 : Int64)) (h21 : ¬ (t21 = 0)) (h22 : t23 = lg_cmp w (1918986606 : Int64)) (h23 : (t23 = 0)) : gsY_X11_isOwn_1 NF v f w g = 1 := by
  subst h0 h2 h4 h6 h8 h10 h12 h14 h16 h18 h20 h22
  simp only [gsY_X11_isOwn_1, if_neg h1, if_neg h3, if_neg h5, if_neg h7, if_neg h9, if_neg h11, if_neg h13, if_neg h15, if_neg h17, if_neg h19, if_neg h21, if_pos h23]
theorem gsY_X11_isOwn_1_q12 {NF : Nat} {v : Nat → Int32} {f : Nat → Nat → Int32} {w : Int64} {g : Nat → Int64} {t1 : Int32} {t3 : Int32} {t5 : Int32} {t7 : Int32} {t9 : Int32} {t11 : Int32} {t13 : Int32} {t15 : Int32} {t17 : Int32} {t19 : Int32} {t21 : Int32} {t23 : Int32} {t25 : Int32} (h0 : t1 = lg_cmp w (7168366 : Int64)) (h1 : ¬ (t1 = 0)) (h2 : t3 = lg_cmp w (1952541804 : Int64)) (h3 : ¬ (t3 = 0)) (h4 : t5 = lg_cmp w (2003395685 : Int64)) (h5 : ¬ (t5 = 0)) (h6 : t7 = lg_cmp w (444301539187 : Int64)) (h7 : ¬ (t7 = 0)) (h8 : t9 = lg_cmp w (1668243828 : Int64)) (h9 : ¬ (t9 = 0)) (h10 : t11 = lg_cmp w (1936023917 : Int64)) (h11 : ¬ (t11 = 0)) (h12 : t13 = lg_cmp w (2003792494 : Int64)) (h13 : ¬ (t13 = 0)) (h14 : t15 = lg_cmp w (6909036 : Int64)) (h15 : ¬ (t15 = 0)) (h16 : t17 = lg_cmp w (1700885369 : Int64)) (h17 : ¬ (t17 = 0)) (h18 : t19 = lg_cmp w (1651469428 : Int64)) (h19 : ¬ (t19 = 0)) (h20 : t21 = lg_cmp w (1818848101 : Int64)) (h21 : ¬ (t21 = 0)) (h22 : t23 = lg_cmp w (1918986606 : Int64)) (h23 : ¬ (t23 = 0)) (h24 : t25 = lg_cmp w (1685217655 : Int64)) (h25 : (t25 = 0)) : gsY_X11_isOwn_1 NF v f w g = 1 := by
  subst h0 h2 h4 h6 h8 h10 h12 h14 h16 h18 h20 h22 h24
  simp only [gsY_X11_isOwn_1, if_neg h1, if_neg h3, if_neg h5, if_neg h7, if_neg h9, if_neg h11, if_neg h13, if_neg h15, if_neg h17, if_neg h19, if_neg h21, if_neg h23, if_pos h25]
theorem gsY_X11_isOwn_1_q13 {NF : Nat} {v : Nat → Int32} {f : Nat → Nat → Int32} {w : Int64} {g : Nat → Int64} {t1 : Int32} {t3 : Int32} {t5 : Int32} {t7 : Int32} {t9 : Int32} {t11 : Int32} {t13 : Int32} {t15 : Int32} {t17 : Int32} {t19 : Int32} {t21 : Int32} {t23 : Int32} {t25 : Int32} {t27 : Int32} (h0 : t1 = lg_cmp w (7168366 : Int64)) (h1 : ¬ (t1 = 0)) (h2 : t3 = lg_cmp w (1952541804 : Int64)) (h3 : ¬ (t3 = 0)) (h4 : t5 = lg_cmp w (2003395685 : Int64)) (h5 : ¬ (t5 = 0)) (h6 : t7 = lg_cmp w (444301539187 : Int64)) (h7 : ¬ (t7 = 0)) (h8 : t9 = lg_cmp w (1668243828 : Int64)) (h9 : ¬ (t9 = 0)) (h10 : t11 = lg_cmp w (1936023917 : Int64)) (h11 : ¬ (t11 = 0)) (h12 : t13 = lg_cmp w (2003792494 : Int64)) (h13 : ¬ (t13 = 0)) (h14 : t15 = lg_cmp w (6909036 : Int64)) (h15 : ¬ (t15 = 0)) (h16 : t17 = lg_cmp w (1700885369 : Int64)) (h17 : ¬ (t17 = 0)) (h18 : t19 = lg_cmp w (1651469428 : Int64)) (h19 : ¬ (t19 = 0)) (h20 : t21 = lg_cmp w (1818848101 : Int64)) (h21 : ¬ (t21 = 0)) (h22 : t23 = lg_cmp w (1918986606 : Int64)) (h23 : ¬ (t23 = 0)) (h24 : t25 = lg_cmp w (1685217655 : Int64)) (h25 : ¬ (t25 = 0)) (h26 : t27 = lg_cmp w (499984590964 : Int64)) (h27 : (t27 = 0)) : gsY_X11_isOwn_1 NF v f w g = 1 := by
  subst h0 h2 h4 h6 h8 h10 h12 h14 h16 h18 h20 h22 h24 h26
  simp only [gsY_X11_isOwn_1, if_neg h1, if_neg h3, if_neg h5, if_neg h7, if_neg h9, if_neg h11, if_neg h13, if_neg h15, if_neg h17, if_neg h19, if_neg h21, if_neg h23, if_neg h25, if_pos h27]
theorem gsY_X11_isOwn_1_q14 {NF : Nat} {v : Nat → Int32} {f : Nat → Nat → Int32} {w : Int64} {g : Nat → Int64} {t1 : Int32} {t3 : Int32} {t5 : Int32} {t7 : Int32} {t9 : Int32} {t11 : Int32} {t13 : Int32} {t15 : Int32} {t17 : Int32} {t19 : Int32} {t21 : Int32} {t23 : Int32} {t25 : Int32} {t27 : Int32} {t29 : Int32} (h0 : t1 = lg_cmp w (7168366 : Int64)) (h1 : ¬ (t1 = 0)) (h2 : t3 = lg_cmp w (1952541804 : Int64)) (h3 : ¬ (t3 = 0)) (h4 : t5 = lg_cmp w (2003395685 : Int64)) (h5 : ¬ (t5 = 0)) (h6 : t7 = lg_cmp w (444301539187 : Int64)) (h7 : ¬ (t7 = 0)) (h8 : t9 = lg_cmp w (1668243828 : Int64)) (h9 : ¬ (t9 = 0)) (h10 : t11 = lg_cmp w (1936023917 : Int64)) (h11 : ¬ (t11 = 0)) (h12 : t13 = lg_cmp w (2003792494 : Int64)) (h13 : ¬ (t13 = 0)) (h14 : t15 = lg_cmp w (6909036 : Int64)) (h15 : ¬ (t15 = 0)) (h16 : t17 = lg_cmp w (1700885369 : Int64)) (h17 : ¬ (t17 = 0)) (h18 : t19 = lg_cmp w (1651469428 : Int64)) (h19 : ¬ (t19 = 0)) (h20 : t21 = lg_cmp w (1818848101 : Int64)) (h21 : ¬ (t21 = 0)) (h22 : t23 = lg_cmp w (1918986606 : Int64)) (h23 : ¬ (t23 = 0)) (h24 : t25 = lg_cmp w (1685217655 : Int64)) (h25 : ¬ (t25 = 0)) (h26 : t27 = lg_cmp w (499984590964 : Int64)) (h27 : ¬ (t27 = 0)) (h28 : t29 = lg_cmp w (465726042981 : Int64)) (h29 : (t29 = 0)) : gsY_X11_isOwn_1 NF v f w g = 1 := by
  subst h0 h2 h4 h6 h8 h10 h12 h14 h16 h18 h20 h22 h24 h26 h28
  simp only [gsY_X11_isOwn_1, if_neg h1, if_neg h3, if_neg h5, if_neg h7, if_neg h9, if_neg h11, if_neg h13, if_neg h15, if_neg h17, if_neg h19, if_neg h21, if_neg h23, if_neg h25, if_neg h27, if_pos h29]
theorem gsY_X11_isOwn_1_q15 {NF : Nat} {v : Nat → Int32} {f : Nat → Nat → Int32} {w : Int64} {g : Nat → Int64} {t1 : Int32} {t3 : Int32} {t5 : Int32} {t7 : Int32} {t9 : Int32} {t11 : Int32} {t13 : Int32} {t15 : Int32} {t17 : Int32} {t19 : Int32} {t21 : Int32} {t23 : Int32} {t25 : Int32} {t27 : Int32} {t29 : Int32} {t31 : Int32} (h0 : t1 = lg_cmp w (7168366 : Int64)) (h1 : ¬ (t1 = 0)) (h2 : t3 = lg_cmp w (1952541804 : Int64)) (h3 : ¬ (t3 = 0)) (h4 : t5 = lg_cmp w (2003395685 : Int64)) (h5 : ¬ (t5 = 0)) (h6 : t7 = lg_cmp w (444301539187 : Int64)) (h7 : ¬ (t7 = 0)) (h8 : t9 = lg_cmp w (1668243828 : Int64)) (h9 : ¬ (t9 = 0)) (h10 : t11 = lg_cmp w (1936023917 : Int64)) (h11 : ¬ (t11 = 0)) (h12 : t13 = lg_cmp w (2003792494 : Int64)) (h13 : ¬ (t13 = 0)) (h14 : t15 = lg_cmp w (6909036 : Int64)) (h15 : ¬ (t15 = 0)) (h16 : t17 = lg_cmp w (1700885369 : Int64)) (h17 : ¬ (t17 = 0)) (h18 : t19 = lg_cmp w (1651469428 : Int64)) (h19 : ¬ (t19 = 0)) (h20 : t21 = lg_cmp w (1818848101 : Int64)) (h21 : ¬ (t21 = 0)) (h22 : t23 = lg_cmp w (1918986606 : Int64)) (h23 : ¬ (t23 = 0)) (h24 : t25 = lg_cmp w (1685217655 : Int64)) (h25 : ¬ (t25 = 0)) (h26 : t27 = lg_cmp w (499984590964 : Int64)) (h27 : ¬ (t27 = 0)) (h28 : t29 = lg_cmp w (465726042981 : Int64)) (h29 : ¬ (t29 = 0)) (h30 : t31 = lg_cmp w (495673373300 : Int64)) (h31 : (t31 = 0)) : gsY_X11_isOwn_1 NF v f w g = 1 := by
  subst h0 h2 h4 h6 h8 h10 h12 h14 h16 h18 h20 h22 h24 h26 h28 h30
  simp only [gsY_X11_isOwn_1, if_neg h1, if_neg h3, if_neg h5, if_neg h7, if_neg h9, if_neg h11, if_neg h13, if_neg h15, if_neg h17, if_neg h19, if_neg h21, if_neg h23, if_neg h25, if_neg h27, if_neg h29, if_pos h31]
theorem gsY_X11_isOwn_1_q16 {NF : Nat} {v : Nat → Int32} {f : Nat → Nat → Int32} {w : Int64} {g : Nat → Int64} {t1 : Int32} {t3 : Int32} {t5 : Int32} {t7 : Int32} {t9 : Int32} {t11 : Int32} {t13 : Int32} {t15 : Int32} {t17 : Int32} {t19 : Int32} {t21 : Int32} {t23 : Int32} {t25 : Int32} {t27 : Int32} {t29 : Int32} {t31 : Int32} {t33 : Int32} (h0 : t1 = lg_cmp w (7168366 : Int64)) (h1 : ¬ (t1 = 0)) (h2 : t3 = lg_cmp w (1952541804 : Int64)) (h3 : ¬ (t3 = 0)) (h4 : t5 = lg_cmp w (2003395685 : Int64)) (h5 : ¬ (t5 = 0)) (h6 : t7 = lg_cmp w (444301539187 : Int64)) (h7 : ¬ (t7 = 0)) (h8 : t9 = lg_cmp w (1668243828 : Int64)) (h9 : ¬ (t9 = 0)) (h10 : t11 = lg_cmp w (1936023917 : Int64)) (h11 : ¬ (t11 = 0)) (h12 : t13 = lg_cmp w (2003792494 : Int64)) (h13 : ¬ (t13 = 0)) (h14 : t15 = lg_cmp w (6909036 : Int64)) (h15 : ¬ (t15 = 0)) (h16 : t17 = lg_cmp w (1700885369 : Int64)) (h17 : ¬ (t17 = 0)) (h18 : t19 = lg_cmp w (1651469428 : Int64)) (h19 : ¬ (t19 = 0)) (h20 : t21 = lg_cmp w (1818848101 : Int64)) (h21 : ¬ (t21 = 0)) (h22 : t23 = lg_cmp w (1918986606 : Int64)) (h23 : ¬ (t23 = 0)) (h24 : t25 = lg_cmp w (1685217655 : Int64)) (h25 : ¬ (t25 = 0)) (h26 : t27 = lg_cmp w (499984590964 : Int64)) (h27 : ¬ (t27 = 0)) (h28 : t29 = lg_cmp w (465726042981 : Int64)) (h29 : ¬ (t29 = 0)) (h30 : t31 = lg_cmp w (495673373300 : Int64)) (h31 : ¬ (t31 = 0)) (h32 : t33 = lg_cmp w (1819242087 : Int64)) (h33 : (t33 = 0)) : gsY_X11_isOwn_1 NF v f w g = 1 := by
  subst h0 h2 h4 h6 h8 h10 h12 h14 h16 h18 h20 h22 h24 h26 h28 h30 h32
  simp only [gsY_X11_isOwn_1, if_neg h1, if_neg h3, if_neg h5, if_neg h7, if_neg h9, if_neg h11, if_neg h13, if_neg h15, if_neg h17, if_neg h19, if_neg h21, if_neg h23, if_neg h25, if_neg h27, if_neg h29, if_neg h31, if_pos h33]
theorem gsY_X11_isOwn_1_q17 {NF : Nat} {v : Nat → Int32} {f : Nat → Nat → Int32} {w : Int64} {g : Nat → Int64} {t1 : Int32} {t3 : Int32} {t5 : Int32} {t7 : Int32} {t9 : Int32} {t11 : Int32} {t13 : Int32} {t15 : Int32} {t17 : Int32} {t19 : Int32} {t21 : Int32} {t23 : Int32} {t25 : Int32} {t27 : Int32} {t29 : Int32} {t31 : Int32} {t33 : Int32} {t35 : Int32} (h0 : t1 = lg_cmp w (7168366 : Int64)) (h1 : ¬ (t1 = 0)) (h2 : t3 = lg_cmp w (1952541804 : Int64)) (h3 : ¬ (t3 = 0)) (h4 : t5 = lg_cmp w (2003395685 : Int64)) (h5 : ¬ (t5 = 0)) (h6 : t7 = lg_cmp w (444301539187 : Int64)) (h7 : ¬ (t7 = 0)) (h8 : t9 = lg_cmp w (1668243828 : Int64)) (h9 : ¬ (t9 = 0)) (h10 : t11 = lg_cmp w (1936023917 : Int64)) (h11 : ¬ (t11 = 0)) (h12 : t13 = lg_cmp w (2003792494 : Int64)) (h13 : ¬ (t13 = 0)) (h14 : t15 = lg_cmp w (6909036 : Int64)) (h15 : ¬ (t15 = 0)) (h16 : t17 = lg_cmp w (1700885369 : Int64)) (h17 : ¬ (t17 = 0)) (h18 : t19 = lg_cmp w (1651469428 : Int64)) (h19 : ¬ (t19 = 0)) (h20 : t21 = lg_cmp w (1818848101 : Int64)) (h21 : ¬ (t21 = 0)) (h22 : t23 = lg_cmp w (1918986606 : Int64)) (h23 : ¬ (t23 = 0)) (h24 : t25 = lg_cmp w (1685217655 : Int64)) (h25 : ¬ (t25 = 0)) (h26 : t27 = lg_cmp w (499984590964 : Int64)) (h27 : ¬ (t27 = 0)) (h28 : t29 = lg_cmp w (465726042981 : Int64)) (h29 : ¬ (t29 = 0)) (h30 : t31 = lg_cmp w (495673373300 : Int64)) (h31 : ¬ (t31 = 0)) (h32 : t33 = lg_cmp w (1819242087 : Int64)) (h33 : ¬ (t33 = 0)) (h34 : t35 = lg_cmp w (6578553 : Int64)) (h35 : (t35 = 0)) : gsY_X11_isOwn_1 NF v f w g = 1 := by
  subst h0 h2 h4 h6 h8 h10 h12 h14 h16 h18 h20 h22 h24 h26 h28 h30 h32 h34
  simp only [gsY_X11_isOwn_1, if_neg h1, if_neg h3, if_neg h5, if_neg h7, if_neg h9, if_neg h11, if_neg h13, if_neg h15, if_neg h17, if_neg h19, if_neg h21, if_neg h23, if_neg h25, if_neg h27, if_neg h29, if_neg h31, if_neg h33, if_pos h35]
theorem gsY_X11_isOwn_1_q18 {NF : Nat} {v : Nat → Int32} {f : Nat → Nat → Int32} {w : Int64} {g : Nat → Int64} {t1 : Int32} {t3 : Int32} {t5 : Int32} {t7 : Int32} {t9 : Int32} {t11 : Int32} {t13 : Int32} {t15 : Int32} {t17 : Int32} {t19 : Int32} {t21 : Int32} {t23 : Int32} {t25 : Int32} {t27 : Int32} {t29 : Int32} {t31 : Int32} {t33 : Int32} {t35 : Int32} {t37 : Int32} (h0 : t1 = lg_cmp w (7168366 : Int64)) (h1 : ¬ (t1 = 0)) (h2 : t3 = lg_cmp w (1952541804 : Int64)) (h3 : ¬ (t3 = 0)) (h4 : t5 = lg_cmp w (2003395685 : Int64)) (h5 : ¬ (t5 = 0)) (h6 : t7 = lg_cmp w (444301539187 : Int64)) (h7 : ¬ (t7 = 0)) (h8 : t9 = lg_cmp w (1668243828 : Int64)) (h9 : ¬ (t9 = 0)) (h10 : t11 = lg_cmp w (1936023917 : Int64)) (h11 : ¬ (t11 = 0)) (h12 : t13 = lg_cmp w (2003792494 : Int64)) (h13 : ¬ (t13 = 0)) (h14 : t15 = lg_cmp w (6909036 : Int64)) (h15 : ¬ (t15 = 0)) (h16 : t17 = lg_cmp w (1700885369 : Int64)) (h17 : ¬ (t17 = 0)) (h18 : t19 = lg_cmp w (1651469428 : Int64)) (h19 : ¬ (t19 = 0)) (h20 : t21 = lg_cmp w (1818848101 : Int64)) (h21 : ¬ (t21 = 0)) (h22 : t23 = lg_cmp w (1918986606 : Int64)) (h23 : ¬ (t23 = 0)) (h24 : t25 = lg_cmp w (1685217655 : Int64)) (h25 : ¬ (t25 = 0)) (h26 : t27 = lg_cmp w (499984590964 : Int64)) (h27 : ¬ (t27 = 0)) (h28 : t29 = lg_cmp w (465726042981 : Int64)) (h29 : ¬ (t29 = 0)) (h30 : t31 = lg_cmp w (495673373300 : Int64)) (h31 : ¬ (t31 = 0)) (h32 : t33 = lg_cmp w (1819242087 : Int64)) (h33 : ¬ (t33 = 0)) (h34 : t35 = lg_cmp w (6578553 : Int64)) (h35 : ¬ (t35 = 0)) (h36 : t37 = lg_cmp w (6385252 : Int64)) (h37 : (t37 = 0)) : gsY_X11_isOwn_1 NF v f w g = 1 := by
  subst h0 h2 h4 h6 h8 h10 h12 h14 h16 h18 h20 h22 h24 h26 h28 h30 h32 h34 h36
  simp only [gsY_X11_isOwn_1, if_neg h1, if_neg h3, if_neg h5, if_neg h7, if_neg h9, if_neg h11, if_neg h13, if_neg h15, if_neg h17, if_neg h19, if_neg h21, if_neg h23, if_neg h25, if_neg h27, if_neg h29, if_neg h31, if_neg h33, if_neg h35, if_pos h37]
theorem gsY_X11_isOwn_1_q19 {NF : Nat} {v : Nat → Int32} {f : Nat → Nat → Int32} {w : Int64} {g : Nat → Int64} {t1 : Int32} {t3 : Int32} {t5 : Int32} {t7 : Int32} {t9 : Int32} {t11 : Int32} {t13 : Int32} {t15 : Int32} {t17 : Int32} {t19 : Int32} {t21 : Int32} {t23 : Int32} {t25 : Int32} {t27 : Int32} {t29 : Int32} {t31 : Int32} {t33 : Int32} {t35 : Int32} {t37 : Int32} {t39 : Int32} (h0 : t1 = lg_cmp w (7168366 : Int64)) (h1 : ¬ (t1 = 0)) (h2 : t3 = lg_cmp w (1952541804 : Int64)) (h3 : ¬ (t3 = 0)) (h4 : t5 = lg_cmp w (2003395685 : Int64)) (h5 : ¬ (t5 = 0)) (h6 : t7 = lg_cmp w (444301539187 : Int64)) (h7 : ¬ (t7 = 0)) (h8 : t9 = lg_cmp w (1668243828 : Int64)) (h9 : ¬ (t9 = 0)) (h10 : t11 = lg_cmp w (1936023917 : Int64)) (h11 : ¬ (t11 = 0)) (h12 : t13 = lg_cmp w (2003792494 : Int64)) (h13 : ¬ (t13 = 0)) (h14 : t15 = lg_cmp w (6909036 : Int64)) (h15 : ¬ (t15 = 0)) (h16 : t17 = lg_cmp w (1700885369 : Int64)) (h17 : ¬ (t17 = 0)) (h18 : t19 = lg_cmp w (1651469428 : Int64)) (h19 : ¬ (t19 = 0)) (h20 : t21 = lg_cmp w (1818848101 : Int64)) (h21 : ¬ (t21 = 0)) (h22 : t23 = lg_cmp w (1918986606 : Int64)) (h23 : ¬ (t23 = 0)) (h24 : t25 = lg_cmp w (1685217655 : Int64)) (h25 : ¬ (t25 = 0)) (h26 : t27 = lg_cmp w (499984590964 : Int64)) (h27 : ¬ (t27 = 0)) (h28 : t29 = lg_cmp w (465726042981 : Int64)) (h29 : ¬ (t29 = 0)) (h30 : t31 = lg_cmp w (495673373300 : Int64)) (h31 : ¬ (t31 = 0)) (h32 : t33 = lg_cmp w (1819242087 : Int64)) (h33 : ¬ (t33 = 0)) (h34 : t35 = lg_cmp w (6578553 : Int64)) (h35 : ¬ (t35 = 0)) (h36 : t37 = lg_cmp w (6385252 : Int64)) (h37 : ¬ (t37 = 0)) (h38 : t39 = lg_cmp w (28530 : Int64)) (h39 : (t39 = 0)) : gsY_X11_isOwn_1 NF v f w g = 1 := by
  subst h0 h2 h4 h6 h8 h10 h12 h14 h16 h18 h20 h22 h24 h26 h28 h30 h32 h34 h36 h38
  simp only [gsY_X11_isOwn_1, if_neg h1, if_neg h3, if_neg h5, if_neg h7, if_neg h9, if_neg h11, if_neg h13, if_neg h15, if_neg h17, if_neg h19, if_neg h21, if_neg h23, if_neg h25, if_neg h27, if_neg h29, if_neg h31, if_neg h33, if_neg h35, if_neg h37, if_pos h39]
theorem gsY_X11_isOwn_1_q20 {NF : Nat} {v : Nat → Int32} {f : Nat → Nat → Int32} {w : Int64} {g : Nat → Int64} {t1 : Int32} {t3 : Int32} {t5 : Int32} {t7 : Int32} {t9 : Int32} {t11 : Int32} {t13 : Int32} {t15 : Int32} {t17 : Int32} {t19 : Int32} {t21 : Int32} {t23 : Int32} {t25 : Int32} {t27 : Int32} {t29 : Int32} {t31 : Int32} {t33 : Int32} {t35 : Int32} {t37 : Int32} {t39 : Int32} {t41 : Int32} (h0 : t1 = lg_cmp w (7168366 : Int64)) (h1 : ¬ (t1 = 0)) (h2 : t3 = lg_cmp w (1952541804 : Int64)) (h3 : ¬ (t3 = 0)) (h4 : t5 = lg_cmp w (2003395685 : Int64)) (h5 : ¬ (t5 = 0)) (h6 : t7 = lg_cmp w (444301539187 : Int64)) (h7 : ¬ (t7 = 0)) (h8 : t9 = lg_cmp w (1668243828 : Int64)) (h9 : ¬ (t9 = 0)) (h10 : t11 = lg_cmp w (1936023917 : Int64)) (h11 : ¬ (t11 = 0)) (h12 : t13 = lg_cmp w (2003792494 : Int64)) (h13 : ¬ (t13 = 0)) (h14 : t15 = lg_cmp w (6909036 : Int64)) (h15 : ¬ (t15 = 0)) (h16 : t17 = lg_cmp w (1700885369 : Int64)) (h17 : ¬ (t17 = 0)) (h18 : t19 = lg_cmp w (1651469428 : Int64)) (h19 : ¬ (t19 = 0)) (h20 : t21 = lg_cmp w (1818848101 : Int64)) (h21 : ¬ (t21 = 0)) (h22 : t23 = lg_cmp w (1918986606 : Int64)) (h23 : ¬ (t23 = 0)) (h24 : t25 = lg_cmp w (1685217655 : Int64)) (h25 : ¬ (t25 = 0)) (h26 : t27 = lg_cmp w (499984590964 : Int64)) (h27 : ¬ (t27 = 0)) (h28 : t29 = lg_cmp w (465726042981 : Int64)) (h29 : ¬ (t29 = 0)) (h30 : t31 = lg_cmp w (495673373300 : Int64)) (h31 : ¬ (t31 = 0)) (h32 : t33 = lg_cmp w (1819242087 : Int64)) (h33 : ¬ (t33 = 0)) (h34 : t35 = lg_cmp w (6578553 : Int64)) (h35 : ¬ (t35 = 0)) (h36 : t37 = lg_cmp w (6385252 : Int64)) (h37 : ¬ (t37 = 0)) (h38 : t39 = lg_cmp w (28530 : Int64)) (h39 : ¬ (t39 = 0)) (h40 : t41 = lg_cmp w (7237492 : Int64)) (h41 : ¬ (t41 = 0)) : gsY_X11_isOwn_1 NF v f w g = 0 := by
  subst h0 h2 h4 h6 h8 h10 h12 h14 h16 h18 h20 h22 h24 h26 h28 h30 h32 h34 h36 h38 h40
  simp only [gsY_X11_isOwn_1, if_neg h1, if_neg h3, if_neg h5, if_neg h7, if_neg h9, if_neg h11, if_neg h13, if_neg h15, if_neg h17, if_neg h19, if_neg h21, if_neg h23, if_neg h25, if_neg h27, if_neg h29, if_neg h31, if_neg h33, if_neg h35, if_neg h37, if_neg h39, if_neg h41]
theorem gsY_X11_isOwn_1_q21 {NF : Nat} {v : Nat → Int32} {f : Nat → Nat → Int32} {w : Int64} {g : Nat → Int64} {t1 : Int32} {t3 : Int32} {t5 : Int32} {t7 : Int32} {t9 : Int32} {t11 : Int32} {t13 : Int32} {t15 : Int32} {t17 : Int32} {t19 : Int32} {t21 : Int32} {t23 : Int32} {t25 : Int32} {t27 : Int32} {t29 : Int32} {t31 : Int32} {t33 : Int32} {t35 : Int32} {t37 : Int32} {t39 : Int32} {t41 : Int32} (h0 : t1 = lg_cmp w (7168366 : Int64)) (h1 : ¬ (t1 = 0)) (h2 : t3 = lg_cmp w (1952541804 : Int64)) (h3 : ¬ (t3 = 0)) (h4 : t5 = lg_cmp w (2003395685 : Int64)) (h5 : ¬ (t5 = 0)) (h6 : t7 = lg_cmp w (444301539187 : Int64)) (h7 : ¬ (t7 = 0)) (h8 : t9 = lg_cmp w (1668243828 : Int64)) (h9 : ¬ (t9 = 0)) (h10 : t11 = lg_cmp w (1936023917 : Int64)) (h11 : ¬ (t11 = 0)) (h12 : t13 = lg_cmp w (2003792494 : Int64)) (h13 : ¬ (t13 = 0)) (h14 : t15 = lg_cmp w (6909036 : Int64)) (h15 : ¬ (t15 = 0)) (h16 : t17 = lg_cmp w (1700885369 : Int64)) (h17 : ¬ (t17 = 0)) (h18 : t19 = lg_cmp w (1651469428 : Int64)) (h19 : ¬ (t19 = 0)) (h20 : t21 = lg_cmp w (1818848101 : Int64)) (h21 : ¬ (t21 = 0)) (h22 : t23 = lg_cmp w (1918986606 : Int64)) (h23 : ¬ (t23 = 0)) (h24 : t25 = lg_cmp w (1685217655 : Int64)) (h25 : ¬ (t25 = 0)) (h26 : t27 = lg_cmp w (499984590964 : Int64)) (h27 : ¬ (t27 = 0)) (h28 : t29 = lg_cmp w (465726042981 : Int64)) (h29 : ¬ (t29 = 0)) (h30 : t31 = lg_cmp w (495673373300 : Int64)) (h31 : ¬ (t31 = 0)) (h32 : t33 = lg_cmp w (1819242087 : Int64)) (h33 : ¬ (t33 = 0)) (h34 : t35 = lg_cmp w (6578553 : Int64)) (h35 : ¬ (t35 = 0)) (h36 : t37 = lg_cmp w (6385252 : Int64)) (h37 : ¬ (t37 = 0)) (h38 : t39 = lg_cmp w (28530 : Int64)) (h39 : ¬ (t39 = 0)) (h40 : t41 = lg_cmp w (7237492 : Int64)) (h41 : (t41 = 0)) : gsY_X11_isOwn_1 NF v f w g = 1 := by
  subst h0 h2 h4 h6 h8 h10 h12 h14 h16 h18 h20 h22 h24 h26 h28 h30 h32 h34 h36 h38 h40
  simp only [gsY_X11_isOwn_1, if_neg h1, if_neg h3, if_neg h5, if_neg h7, if_neg h9, if_neg h11, if_neg h13, if_neg h15, if_neg h17, if_neg h19, if_neg h21, if_neg h23, if_neg h25, if_neg h27, if_neg h29, if_neg h31, if_neg h33, if_neg h35, if_neg h37, if_neg h39, if_pos h41]
def gsY_X11_isName_1 (NF : Nat) (v : Nat → Int32) (f : Nat → Nat → Int32) (w : Int64) (g : Nat → Int64) : Int32 :=
  if (v 5) = 1 then
    if gsY_X11_isOwn_1 NF v f w g = 1 then
      0
    else
      1
  else
    0
theorem gsY_X11_isName_1_q0 {NF : Nat} {v : Nat → Int32} {f : Nat → Nat → Int32} {w : Int64} {g : Nat → Int64} (h0 : ¬ ((v 5) = 1)) : gsY_X11_isName_1 NF v f w g = 0 := by
  simp only [gsY_X11_isName_1, if_neg h0]
theorem gsY_X11_isName_1_q1 {NF : Nat} {v : Nat → Int32} {f : Nat → Nat → Int32} {w : Int64} {g : Nat → Int64} (h0 : ((v 5) = 1)) (h1 : gsY_X11_isOwn_1 NF v f w g = 1) : gsY_X11_isName_1 NF v f w g = 0 := by
  simp only [gsY_X11_isName_1, if_pos h0, h1, ite11, ite01, if_true, if_false]
theorem gsY_X11_isName_1_q2 {NF : Nat} {v : Nat → Int32} {f : Nat → Nat → Int32} {w : Int64} {g : Nat → Int64} (h0 : ((v 5) = 1)) (h1 : gsY_X11_isOwn_1 NF v f w g = 0) : gsY_X11_isName_1 NF v f w g = 1 := by
  simp only [gsY_X11_isName_1, if_pos h0, h1, ite11, ite01, if_true, if_false]
def gsY_X11_newName_1_L14 (NF : Nat) (p1 : Int32) (p2 : Int32) : Nat → (Int32) → (Nat → Int32) → (Nat → Nat → Int32) → (Int64) → (Nat → Int64) → (Nat → Int32) × (Nat → Nat → Int32) × (Int64) × (Nat → Int64)
  | 0, _, _, _, _, _ => ((fun _ => 0), (fun _ _ => 0), 0, (fun _ => 0))
  | n14 + 1, l3_14, v14, f14, w14, g14 =>
    if p2 ≤ l3_14 then
      if (v14 1) ≤ 0 then
        let t19 : Int32 := p1 + p2
        let g21 : Nat → Int64 := vp_updL g14 (t19).toNatClampNeg w14
        match gsY_X11_token_1 NF v14 f14 w14 g21 with
        | (v23, f24, w25, g26) =>
          (v23, f24, w25, g26)
      else
        (v14, f14, w14, g14)
    else
      if (v14 1) = 0 then
        let t49 : Int32 := p1 + l3_14
        let j51 : Int64 := g14 (t49).toNatClampNeg
        let t52 : Int32 := lg_cmp j51 w14
        if t52 = 0 then
          match gsY_X11_wrong_1 NF 3 v14 f14 w14 g14 with
          | (v57, f58, w59, g60) =>
            let t67 : Int32 := l3_14 + 1
            gsY_X11_newName_1_L14 NF p1 p2 n14 t67 v57 f58 w59 g60
        else
          let t54 : Int32 := l3_14 + 1
          gsY_X11_newName_1_L14 NF p1 p2 n14 t54 v14 f14 w14 g14
      else
        if (v14 1) ≤ 0 then
          let t36 : Int32 := p1 + p2
          let g38 : Nat → Int64 := vp_updL g14 (t36).toNatClampNeg w14
          match gsY_X11_token_1 NF v14 f14 w14 g38 with
          | (v40, f41, w42, g43) =>
            (v40, f41, w42, g43)
        else
          (v14, f14, w14, g14)
def gsY_X11_newName_1_L80 (NF : Nat) (p1 : Int32) (p2 : Int32) : Nat → (Int32) → (Nat → Int32) → (Nat → Nat → Int32) → (Int64) → (Nat → Int64) → (Nat → Int32) × (Nat → Nat → Int32) × (Int64) × (Nat → Int64)
  | 0, _, _, _, _, _ => ((fun _ => 0), (fun _ _ => 0), 0, (fun _ => 0))
  | n80 + 1, l3_80, v80, f80, w80, g80 =>
    if p2 ≤ l3_80 then
      if (v80 1) ≤ 0 then
        let t85 : Int32 := p1 + p2
        let g87 : Nat → Int64 := vp_updL g80 (t85).toNatClampNeg w80
        match gsY_X11_token_1 NF v80 f80 w80 g87 with
        | (v89, f90, w91, g92) =>
          (v89, f90, w91, g92)
      else
        (v80, f80, w80, g80)
    else
      if (v80 1) = 0 then
        let t115 : Int32 := p1 + l3_80
        let j117 : Int64 := g80 (t115).toNatClampNeg
        let t118 : Int32 := lg_cmp j117 w80
        if t118 = 0 then
          match gsY_X11_wrong_1 NF 3 v80 f80 w80 g80 with
          | (v123, f124, w125, g126) =>
            let t133 : Int32 := l3_80 + 1
            gsY_X11_newName_1_L80 NF p1 p2 n80 t133 v123 f124 w125 g126
        else
          let t120 : Int32 := l3_80 + 1
          gsY_X11_newName_1_L80 NF p1 p2 n80 t120 v80 f80 w80 g80
      else
        if (v80 1) ≤ 0 then
          let t102 : Int32 := p1 + p2
          let g104 : Nat → Int64 := vp_updL g80 (t102).toNatClampNeg w80
          match gsY_X11_token_1 NF v80 f80 w80 g104 with
          | (v106, f107, w108, g109) =>
            (v106, f107, w108, g109)
        else
          (v80, f80, w80, g80)
def gsY_X11_newName_1 (NF : Nat) (p1 : Int32) (p2 : Int32) (v : Nat → Int32) (f : Nat → Nat → Int32) (w : Int64) (g : Nat → Int64) : (Nat → Int32) × (Nat → Nat → Int32) × (Int64) × (Nat → Int64) :=
  match gsY_X11_token_1 NF v f w g with
  | (v2, f3, w4, g5) =>
    if gsY_X11_isName_1 NF v2 f3 w4 g5 = 1 then
      gsY_X11_newName_1_L14 NF p1 p2 (4294967296 + NF) 0 v2 f3 w4 g5
    else
      match gsY_X11_wrong_1 NF 2 v2 f3 w4 g5 with
      | (v70, f71, w72, g73) =>
        gsY_X11_newName_1_L80 NF p1 p2 (4294967296 + NF) 0 v70 f71 w72 g73
theorem gsY_X11_newName_1_q6 {NF : Nat} {p1 : Int32} {p2 : Int32} {v : Nat → Int32} {f : Nat → Nat → Int32} {w : Int64} {g : Nat → Int64} {v2 : Nat → Int32} {f3 : Nat → Nat → Int32} {w4 : Int64} {g5 : Nat → Int64} (h0 : gsY_X11_token_1 NF v f w g = (v2, f3, w4, g5)) (h1 : gsY_X11_isName_1 NF v2 f3 w4 g5 = 1) : gsY_X11_newName_1 NF p1 p2 v f w g = gsY_X11_newName_1_L14 NF p1 p2 (4294967296 + NF) 0 v2 f3 w4 g5 := by
  simp only [gsY_X11_newName_1, h0, h1, ite11, ite01, if_true, if_false]
theorem gsY_X11_newName_1_q13 {NF : Nat} {p1 : Int32} {p2 : Int32} {v : Nat → Int32} {f : Nat → Nat → Int32} {w : Int64} {g : Nat → Int64} {v2 : Nat → Int32} {f3 : Nat → Nat → Int32} {w4 : Int64} {g5 : Nat → Int64} {v70 : Nat → Int32} {f71 : Nat → Nat → Int32} {w72 : Int64} {g73 : Nat → Int64} (h0 : gsY_X11_token_1 NF v f w g = (v2, f3, w4, g5)) (h1 : gsY_X11_isName_1 NF v2 f3 w4 g5 = 0) (h2 : gsY_X11_wrong_1 NF 2 v2 f3 w4 g5 = (v70, f71, w72, g73)) : gsY_X11_newName_1 NF p1 p2 v f w g = gsY_X11_newName_1_L80 NF p1 p2 (4294967296 + NF) 0 v70 f71 w72 g73 := by
  simp only [gsY_X11_newName_1, h0, h1, h2, ite11, ite01, if_true, if_false]
theorem gsY_X11_newName_1_q0 {NF : Nat} {p1 : Int32} {p2 : Int32} {n14 : Nat} {l3_14 : Int32} {v14 : Nat → Int32} {f14 : Nat → Nat → Int32} {w14 : Int64} {g14 : Nat → Int64} {t19 : Int32} {g21 : Nat → Int64} {v23 : Nat → Int32} {f24 : Nat → Nat → Int32} {w25 : Int64} {g26 : Nat → Int64} (h0 : (p2 ≤ l3_14)) (h1 : ((v14 1) ≤ 0)) (h2 : t19 = p1 + p2) (h3 : g21 = vp_updL g14 (t19).toNatClampNeg w14) (h4 : gsY_X11_token_1 NF v14 f14 w14 g21 = (v23, f24, w25, g26)) : gsY_X11_newName_1_L14 NF p1 p2 (n14 + 1) l3_14 v14 f14 w14 g14 = (v23, f24, w25, g26) := by
  subst h2 h3
  simp only [gsY_X11_newName_1_L14, if_pos h0, if_pos h1, h4]
theorem gsY_X11_newName_1_q1 {NF : Nat} {p1 : Int32} {p2 : Int32} {n14 : Nat} {l3_14 : Int32} {v14 : Nat → Int32} {f14 : Nat → Nat → Int32} {w14 : Int64} {g14 : Nat → Int64} (h0 : (p2 ≤ l3_14)) (h1 : ¬ ((v14 1) ≤ 0)) : gsY_X11_newName_1_L14 NF p1 p2 (n14 + 1) l3_14 v14 f14 w14 g14 = (v14, f14, w14, g14) := by
  simp only [gsY_X11_newName_1_L14, if_pos h0, if_neg h1]
theorem gsY_X11_newName_1_q2 {NF : Nat} {p1 : Int32} {p2 : Int32} {n14 : Nat} {l3_14 : Int32} {v14 : Nat → Int32} {f14 : Nat → Nat → Int32} {w14 : Int64} {g14 : Nat → Int64} {t36 : Int32} {g38 : Nat → Int64} {v40 : Nat → Int32} {f41 : Nat → Nat → Int32} {w42 : Int64} {g43 : Nat → Int64} (h0 : ¬ (p2 ≤ l3_14)) (h1 : ¬ ((v14 1) = 0)) (h2 : ((v14 1) ≤ 0)) (h3 : t36 = p1 + p2) (h4 : g38 = vp_updL g14 (t36).toNatClampNeg w14) (h5 : gsY_X11_token_1 NF v14 f14 w14 g38 = (v40, f41, w42, g43)) : gsY_X11_newName_1_L14 NF p1 p2 (n14 + 1) l3_14 v14 f14 w14 g14 = (v40, f41, w42, g43) := by
  subst h3 h4
  simp only [gsY_X11_newName_1_L14, if_neg h0, if_neg h1, if_pos h2, h5]
theorem gsY_X11_newName_1_q3 {NF : Nat} {p1 : Int32} {p2 : Int32} {n14 : Nat} {l3_14 : Int32} {v14 : Nat → Int32} {f14 : Nat → Nat → Int32} {w14 : Int64} {g14 : Nat → Int64} (h0 : ¬ (p2 ≤ l3_14)) (h1 : ¬ ((v14 1) = 0)) (h2 : ¬ ((v14 1) ≤ 0)) : gsY_X11_newName_1_L14 NF p1 p2 (n14 + 1) l3_14 v14 f14 w14 g14 = (v14, f14, w14, g14) := by
  simp only [gsY_X11_newName_1_L14, if_neg h0, if_neg h1, if_neg h2]
theorem gsY_X11_newName_1_q4 {NF : Nat} {p1 : Int32} {p2 : Int32} {n14 : Nat} {l3_14 : Int32} {v14 : Nat → Int32} {f14 : Nat → Nat → Int32} {w14 : Int64} {g14 : Nat → Int64} {t49 : Int32} {j51 : Int64} {t52 : Int32} {t54 : Int32} (h0 : ¬ (p2 ≤ l3_14)) (h1 : ((v14 1) = 0)) (h2 : t49 = p1 + l3_14) (h3 : j51 = g14 (t49).toNatClampNeg) (h4 : t52 = lg_cmp j51 w14) (h5 : ¬ (t52 = 0)) (h6 : t54 = l3_14 + 1) : gsY_X11_newName_1_L14 NF p1 p2 (n14 + 1) l3_14 v14 f14 w14 g14 = gsY_X11_newName_1_L14 NF p1 p2 n14 t54 v14 f14 w14 g14 := by
  subst h2 h3 h4 h6
  simp only [gsY_X11_newName_1_L14, if_neg h0, if_pos h1, if_neg h5]
theorem gsY_X11_newName_1_q5 {NF : Nat} {p1 : Int32} {p2 : Int32} {n14 : Nat} {l3_14 : Int32} {v14 : Nat → Int32} {f14 : Nat → Nat → Int32} {w14 : Int64} {g14 : Nat → Int64} {t49 : Int32} {j51 : Int64} {t52 : Int32} {v57 : Nat → Int32} {f58 : Nat → Nat → Int32} {w59 : Int64} {g60 : Nat → Int64} {t67 : Int32} (h0 : ¬ (p2 ≤ l3_14)) (h1 : ((v14 1) = 0)) (h2 : t49 = p1 + l3_14) (h3 : j51 = g14 (t49).toNatClampNeg) (h4 : t52 = lg_cmp j51 w14) (h5 : (t52 = 0)) (h6 : gsY_X11_wrong_1 NF 3 v14 f14 w14 g14 = (v57, f58, w59, g60)) (h7 : t67 = l3_14 + 1) : gsY_X11_newName_1_L14 NF p1 p2 (n14 + 1) l3_14 v14 f14 w14 g14 = gsY_X11_newName_1_L14 NF p1 p2 n14 t67 v57 f58 w59 g60 := by
  subst h2 h3 h4 h7
  simp only [gsY_X11_newName_1_L14, if_neg h0, if_pos h1, if_pos h5, h6]
theorem gsY_X11_newName_1_q7 {NF : Nat} {p1 : Int32} {p2 : Int32} {n80 : Nat} {l3_80 : Int32} {v80 : Nat → Int32} {f80 : Nat → Nat → Int32} {w80 : Int64} {g80 : Nat → Int64} {t85 : Int32} {g87 : Nat → Int64} {v89 : Nat → Int32} {f90 : Nat → Nat → Int32} {w91 : Int64} {g92 : Nat → Int64} (h0 : (p2 ≤ l3_80)) (h1 : ((v80 1) ≤ 0)) (h2 : t85 = p1 + p2) (h3 : g87 = vp_updL g80 (t85).toNatClampNeg w80) (h4 : gsY_X11_token_1 NF v80 f80 w80 g87 = (v89, f90, w91, g92)) : gsY_X11_newName_1_L80 NF p1 p2 (n80 + 1) l3_80 v80 f80 w80 g80 = (v89, f90, w91, g92) := by
  subst h2 h3
  simp only [gsY_X11_newName_1_L80, if_pos h0, if_pos h1, h4]
theorem gsY_X11_newName_1_q8 {NF : Nat} {p1 : Int32} {p2 : Int32} {n80 : Nat} {l3_80 : Int32} {v80 : Nat → Int32} {f80 : Nat → Nat → Int32} {w80 : Int64} {g80 : Nat → Int64} (h0 : (p2 ≤ l3_80)) (h1 : ¬ ((v80 1) ≤ 0)) : gsY_X11_newName_1_L80 NF p1 p2 (n80 + 1) l3_80 v80 f80 w80 g80 = (v80, f80, w80, g80) := by
  simp only [gsY_X11_newName_1_L80, if_pos h0, if_neg h1]
theorem gsY_X11_newName_1_q9 {NF : Nat} {p1 : Int32} {p2 : Int32} {n80 : Nat} {l3_80 : Int32} {v80 : Nat → Int32} {f80 : Nat → Nat → Int32} {w80 : Int64} {g80 : Nat → Int64} {t102 : Int32} {g104 : Nat → Int64} {v106 : Nat → Int32} {f107 : Nat → Nat → Int32} {w108 : Int64} {g109 : Nat → Int64} (h0 : ¬ (p2 ≤ l3_80)) (h1 : ¬ ((v80 1) = 0)) (h2 : ((v80 1) ≤ 0)) (h3 : t102 = p1 + p2) (h4 : g104 = vp_updL g80 (t102).toNatClampNeg w80) (h5 : gsY_X11_token_1 NF v80 f80 w80 g104 = (v106, f107, w108, g109)) : gsY_X11_newName_1_L80 NF p1 p2 (n80 + 1) l3_80 v80 f80 w80 g80 = (v106, f107, w108, g109) := by
  subst h3 h4
  simp only [gsY_X11_newName_1_L80, if_neg h0, if_neg h1, if_pos h2, h5]
theorem gsY_X11_newName_1_q10 {NF : Nat} {p1 : Int32} {p2 : Int32} {n80 : Nat} {l3_80 : Int32} {v80 : Nat → Int32} {f80 : Nat → Nat → Int32} {w80 : Int64} {g80 : Nat → Int64} (h0 : ¬ (p2 ≤ l3_80)) (h1 : ¬ ((v80 1) = 0)) (h2 : ¬ ((v80 1) ≤ 0)) : gsY_X11_newName_1_L80 NF p1 p2 (n80 + 1) l3_80 v80 f80 w80 g80 = (v80, f80, w80, g80) := by
  simp only [gsY_X11_newName_1_L80, if_neg h0, if_neg h1, if_neg h2]
theorem gsY_X11_newName_1_q11 {NF : Nat} {p1 : Int32} {p2 : Int32} {n80 : Nat} {l3_80 : Int32} {v80 : Nat → Int32} {f80 : Nat → Nat → Int32} {w80 : Int64} {g80 : Nat → Int64} {t115 : Int32} {j117 : Int64} {t118 : Int32} {t120 : Int32} (h0 : ¬ (p2 ≤ l3_80)) (h1 : ((v80 1) = 0)) (h2 : t115 = p1 + l3_80) (h3 : j117 = g80 (t115).toNatClampNeg) (h4 : t118 = lg_cmp j117 w80) (h5 : ¬ (t118 = 0)) (h6 : t120 = l3_80 + 1) : gsY_X11_newName_1_L80 NF p1 p2 (n80 + 1) l3_80 v80 f80 w80 g80 = gsY_X11_newName_1_L80 NF p1 p2 n80 t120 v80 f80 w80 g80 := by
  subst h2 h3 h4 h6
  simp only [gsY_X11_newName_1_L80, if_neg h0, if_pos h1, if_neg h5]
theorem gsY_X11_newName_1_q12 {NF : Nat} {p1 : Int32} {p2 : Int32} {n80 : Nat} {l3_80 : Int32} {v80 : Nat → Int32} {f80 : Nat → Nat → Int32} {w80 : Int64} {g80 : Nat → Int64} {t115 : Int32} {j117 : Int64} {t118 : Int32} {v123 : Nat → Int32} {f124 : Nat → Nat → Int32} {w125 : Int64} {g126 : Nat → Int64} {t133 : Int32} (h0 : ¬ (p2 ≤ l3_80)) (h1 : ((v80 1) = 0)) (h2 : t115 = p1 + l3_80) (h3 : j117 = g80 (t115).toNatClampNeg) (h4 : t118 = lg_cmp j117 w80) (h5 : (t118 = 0)) (h6 : gsY_X11_wrong_1 NF 3 v80 f80 w80 g80 = (v123, f124, w125, g126)) (h7 : t133 = l3_80 + 1) : gsY_X11_newName_1_L80 NF p1 p2 (n80 + 1) l3_80 v80 f80 w80 g80 = gsY_X11_newName_1_L80 NF p1 p2 n80 t133 v123 f124 w125 g126 := by
  subst h2 h3 h4 h7
  simp only [gsY_X11_newName_1_L80, if_neg h0, if_pos h1, if_pos h5, h6]
def gsY_X11_option_1 (NF : Nat) (j1 : Int64) (p2 : Int32) (v : Nat → Int32) (f : Nat → Nat → Int32) (w : Int64) (g : Nat → Int64) : Int32 × (Nat → Int32) × (Nat → Nat → Int32) × (Int64) × (Nat → Int64) :=
  if (v 1) = 0 then
    if gsY_X11_isWord_1 NF j1 v f w g = 1 then
      match gsY_X11_told_1 NF j1 p2 v f w g with
      | (r5, v7, f8, w9, g10) =>
        (r5, v7, f8, w9, g10)
    else
      (0, v, f, w, g)
  else
    (0, v, f, w, g)
theorem gsY_X11_option_1_q0 {NF : Nat} {j1 : Int64} {p2 : Int32} {v : Nat → Int32} {f : Nat → Nat → Int32} {w : Int64} {g : Nat → Int64} (h0 : ¬ ((v 1) = 0)) : gsY_X11_option_1 NF j1 p2 v f w g = (0, v, f, w, g) := by
  simp only [gsY_X11_option_1, if_neg h0]
theorem gsY_X11_option_1_q1 {NF : Nat} {j1 : Int64} {p2 : Int32} {v : Nat → Int32} {f : Nat → Nat → Int32} {w : Int64} {g : Nat → Int64} {r5 : Int32} {v7 : Nat → Int32} {f8 : Nat → Nat → Int32} {w9 : Int64} {g10 : Nat → Int64} (h0 : ((v 1) = 0)) (h1 : gsY_X11_isWord_1 NF j1 v f w g = 1) (h2 : gsY_X11_told_1 NF j1 p2 v f w g = (r5, v7, f8, w9, g10)) : gsY_X11_option_1 NF j1 p2 v f w g = (r5, v7, f8, w9, g10) := by
  simp only [gsY_X11_option_1, if_pos h0, h1, h2, ite11, ite01, if_true, if_false]
theorem gsY_X11_option_1_q2 {NF : Nat} {j1 : Int64} {p2 : Int32} {v : Nat → Int32} {f : Nat → Nat → Int32} {w : Int64} {g : Nat → Int64} (h0 : ((v 1) = 0)) (h1 : gsY_X11_isWord_1 NF j1 v f w g = 0) : gsY_X11_option_1 NF j1 p2 v f w g = (0, v, f, w, g) := by
  simp only [gsY_X11_option_1, if_pos h0, h1, ite11, ite01, if_true, if_false]
def gsY_X11_readCoat_1 (NF : Nat) (v : Nat → Int32) (f : Nat → Nat → Int32) (w : Int64) (g : Nat → Int64) : (Nat → Int32) × (Nat → Nat → Int32) × (Int64) × (Nat → Int64) :=
  match gsY_X11_newName_1 NF 6 (v 18) v f w g with
  | (v2, f3, w4, g5) =>
    match gsY_X11_told_1 NF (1952541804 : Int64) 99 v2 f3 w4 g5 with
    | (r11, v13, f14, w15, g16) =>
      let f22 : Nat → Nat → Int32 := upd2 f14 12 (upd (f14 12) (v 18).toNatClampNeg r11)
      match gsY_X11_told_1 NF (2003395685 : Int64) 99 v13 f22 w15 g16 with
      | (r23, v25, f26, w27, g28) =>
        let f34 : Nat → Nat → Int32 := upd2 f26 13 (upd (f26 13) (v 18).toNatClampNeg r23)
        match gsY_X11_option_1 NF (1936023917 : Int64) 20 v25 f34 w27 g28 with
        | (r35, v37, f38, w39, g40) =>
          let f46 : Nat → Nat → Int32 := upd2 f38 14 (upd (f38 14) (v 18).toNatClampNeg r35)
          match gsY_X11_option_1 NF (2003792494 : Int64) 99 v37 f46 w39 g40 with
          | (r47, v49, f50, w51, g52) =>
            let f58 : Nat → Nat → Int32 := upd2 f50 15 (upd (f50 15) (v 18).toNatClampNeg r47)
            if (v49 1) = 0 then
              let t60 : Int32 := (v 18) + 1
              ((upd v49 18 t60), f58, w51, g52)
            else
              (v49, f58, w51, g52)
theorem gsY_X11_readCoat_1_q0 {NF : Nat} {v : Nat → Int32} {f : Nat → Nat → Int32} {w : Int64} {g : Nat → Int64} {v2 : Nat → Int32} {f3 : Nat → Nat → Int32} {w4 : Int64} {g5 : Nat → Int64} {r11 : Int32} {v13 : Nat → Int32} {f14 : Nat → Nat → Int32} {w15 : Int64} {g16 : Nat → Int64} {f22 : Nat → Nat → Int32} {r23 : Int32} {v25 : Nat → Int32} {f26 : Nat → Nat → Int32} {w27 : Int64} {g28 : Nat → Int64} {f34 : Nat → Nat → Int32} {r35 : Int32} {v37 : Nat → Int32} {f38 : Nat → Nat → Int32} {w39 : Int64} {g40 : Nat → Int64} {f46 : Nat → Nat → Int32} {r47 : Int32} {v49 : Nat → Int32} {f50 : Nat → Nat → Int32} {w51 : Int64} {g52 : Nat → Int64} {f58 : Nat → Nat → Int32} (h0 : gsY_X11_newName_1 NF 6 (v 18) v f w g = (v2, f3, w4, g5)) (h1 : gsY_X11_told_1 NF (1952541804 : Int64) 99 v2 f3 w4 g5 = (r11, v13, f14, w15, g16)) (h2 : f22 = upd2 f14 12 (upd (f14 12) (v 18).toNatClampNeg r11)) (h3 : gsY_X11_told_1 NF (2003395685 : Int64) 99 v13 f22 w15 g16 = (r23, v25, f26, w27, g28)) (h4 : f34 = upd2 f26 13 (upd (f26 13) (v 18).toNatClampNeg r23)) (h5 : gsY_X11_option_1 NF (1936023917 : Int64) 20 v25 f34 w27 g28 = (r35, v37, f38, w39, g40)) (h6 : f46 = upd2 f38 14 (upd (f38 14) (v 18).toNatClampNeg r35)) (h7 : gsY_X11_option_1 NF (2003792494 : Int64) 99 v37 f46 w39 g40 = (r47, v49, f50, w51, g52)) (h8 : f58 = upd2 f50 15 (upd (f50 15) (v 18).toNatClampNeg r47)) (h9 : ¬ ((v49 1) = 0)) : gsY_X11_readCoat_1 NF v f w g = (v49, f58, w51, g52) := by
  subst h2 h4 h6 h8
  simp only [gsY_X11_readCoat_1, h0, h1, h3, h5, h7, if_neg h9]
theorem gsY_X11_readCoat_1_q1 {NF : Nat} {v : Nat → Int32} {f : Nat → Nat → Int32} {w : Int64} {g : Nat → Int64} {v2 : Nat → Int32} {f3 : Nat → Nat → Int32} {w4 : Int64} {g5 : Nat → Int64} {r11 : Int32} {v13 : Nat → Int32} {f14 : Nat → Nat → Int32} {w15 : Int64} {g16 : Nat → Int64} {f22 : Nat → Nat → Int32} {r23 : Int32} {v25 : Nat → Int32} {f26 : Nat → Nat → Int32} {w27 : Int64} {g28 : Nat → Int64} {f34 : Nat → Nat → Int32} {r35 : Int32} {v37 : Nat → Int32} {f38 : Nat → Nat → Int32} {w39 : Int64} {g40 : Nat → Int64} {f46 : Nat → Nat → Int32} {r47 : Int32} {v49 : Nat → Int32} {f50 : Nat → Nat → Int32} {w51 : Int64} {g52 : Nat → Int64} {f58 : Nat → Nat → Int32} {t60 : Int32} (h0 : gsY_X11_newName_1 NF 6 (v 18) v f w g = (v2, f3, w4, g5)) (h1 : gsY_X11_told_1 NF (1952541804 : Int64) 99 v2 f3 w4 g5 = (r11, v13, f14, w15, g16)) (h2 : f22 = upd2 f14 12 (upd (f14 12) (v 18).toNatClampNeg r11)) (h3 : gsY_X11_told_1 NF (2003395685 : Int64) 99 v13 f22 w15 g16 = (r23, v25, f26, w27, g28)) (h4 : f34 = upd2 f26 13 (upd (f26 13) (v 18).toNatClampNeg r23)) (h5 : gsY_X11_option_1 NF (1936023917 : Int64) 20 v25 f34 w27 g28 = (r35, v37, f38, w39, g40)) (h6 : f46 = upd2 f38 14 (upd (f38 14) (v 18).toNatClampNeg r35)) (h7 : gsY_X11_option_1 NF (2003792494 : Int64) 99 v37 f46 w39 g40 = (r47, v49, f50, w51, g52)) (h8 : f58 = upd2 f50 15 (upd (f50 15) (v 18).toNatClampNeg r47)) (h9 : ((v49 1) = 0)) (h10 : t60 = (v 18) + 1) : gsY_X11_readCoat_1 NF v f w g = ((upd v49 18 t60), f58, w51, g52) := by
  subst h2 h4 h6 h8 h10
  simp only [gsY_X11_readCoat_1, h0, h1, h3, h5, h7, if_pos h9]
def gsY_X11_readMan_1 (NF : Nat) (v : Nat → Int32) (f : Nat → Nat → Int32) (w : Int64) (g : Nat → Int64) : (Nat → Int32) × (Nat → Nat → Int32) × (Int64) × (Nat → Int64) :=
  match gsY_X11_newName_1 NF 0 (v 17) v f w g with
  | (v2, f3, w4, g5) =>
    match gsY_X11_told_1 NF (1952541804 : Int64) 99 v2 f3 w4 g5 with
    | (r11, v13, f14, w15, g16) =>
      let f22 : Nat → Nat → Int32 := upd2 f14 9 (upd (f14 9) (v 17).toNatClampNeg r11)
      match gsY_X11_told_1 NF (2003395685 : Int64) 99 v13 f22 w15 g16 with
      | (r23, v25, f26, w27, g28) =>
        let f34 : Nat → Nat → Int32 := upd2 f26 10 (upd (f26 10) (v 17).toNatClampNeg r23)
        match gsY_X11_option_1 NF (444301539187 : Int64) 9 v25 f34 w27 g28 with
        | (r35, v37, f38, w39, g40) =>
          let f46 : Nat → Nat → Int32 := upd2 f38 11 (upd (f38 11) (v 17).toNatClampNeg r35)
          if (v37 1) = 0 then
            let t48 : Int32 := (v 17) + 1
            ((upd v37 17 t48), f46, w39, g40)
          else
            (v37, f46, w39, g40)
theorem gsY_X11_readMan_1_q0 {NF : Nat} {v : Nat → Int32} {f : Nat → Nat → Int32} {w : Int64} {g : Nat → Int64} {v2 : Nat → Int32} {f3 : Nat → Nat → Int32} {w4 : Int64} {g5 : Nat → Int64} {r11 : Int32} {v13 : Nat → Int32} {f14 : Nat → Nat → Int32} {w15 : Int64} {g16 : Nat → Int64} {f22 : Nat → Nat → Int32} {r23 : Int32} {v25 : Nat → Int32} {f26 : Nat → Nat → Int32} {w27 : Int64} {g28 : Nat → Int64} {f34 : Nat → Nat → Int32} {r35 : Int32} {v37 : Nat → Int32} {f38 : Nat → Nat → Int32} {w39 : Int64} {g40 : Nat → Int64} {f46 : Nat → Nat → Int32} (h0 : gsY_X11_newName_1 NF 0 (v 17) v f w g = (v2, f3, w4, g5)) (h1 : gsY_X11_told_1 NF (1952541804 : Int64) 99 v2 f3 w4 g5 = (r11, v13, f14, w15, g16)) (h2 : f22 = upd2 f14 9 (upd (f14 9) (v 17).toNatClampNeg r11)) (h3 : gsY_X11_told_1 NF (2003395685 : Int64) 99 v13 f22 w15 g16 = (r23, v25, f26, w27, g28)) (h4 : f34 = upd2 f26 10 (upd (f26 10) (v 17).toNatClampNeg r23)) (h5 : gsY_X11_option_1 NF (444301539187 : Int64) 9 v25 f34 w27 g28 = (r35, v37, f38, w39, g40)) (h6 : f46 = upd2 f38 11 (upd (f38 11) (v 17).toNatClampNeg r35)) (h7 : ¬ ((v37 1) = 0)) : gsY_X11_readMan_1 NF v f w g = (v37, f46, w39, g40) := by
  subst h2 h4 h6
  simp only [gsY_X11_readMan_1, h0, h1, h3, h5, if_neg h7]
theorem gsY_X11_readMan_1_q1 {NF : Nat} {v : Nat → Int32} {f : Nat → Nat → Int32} {w : Int64} {g : Nat → Int64} {v2 : Nat → Int32} {f3 : Nat → Nat → Int32} {w4 : Int64} {g5 : Nat → Int64} {r11 : Int32} {v13 : Nat → Int32} {f14 : Nat → Nat → Int32} {w15 : Int64} {g16 : Nat → Int64} {f22 : Nat → Nat → Int32} {r23 : Int32} {v25 : Nat → Int32} {f26 : Nat → Nat → Int32} {w27 : Int64} {g28 : Nat → Int64} {f34 : Nat → Nat → Int32} {r35 : Int32} {v37 : Nat → Int32} {f38 : Nat → Nat → Int32} {w39 : Int64} {g40 : Nat → Int64} {f46 : Nat → Nat → Int32} {t48 : Int32} (h0 : gsY_X11_newName_1 NF 0 (v 17) v f w g = (v2, f3, w4, g5)) (h1 : gsY_X11_told_1 NF (1952541804 : Int64) 99 v2 f3 w4 g5 = (r11, v13, f14, w15, g16)) (h2 : f22 = upd2 f14 9 (upd (f14 9) (v 17).toNatClampNeg r11)) (h3 : gsY_X11_told_1 NF (2003395685 : Int64) 99 v13 f22 w15 g16 = (r23, v25, f26, w27, g28)) (h4 : f34 = upd2 f26 10 (upd (f26 10) (v 17).toNatClampNeg r23)) (h5 : gsY_X11_option_1 NF (444301539187 : Int64) 9 v25 f34 w27 g28 = (r35, v37, f38, w39, g40)) (h6 : f46 = upd2 f38 11 (upd (f38 11) (v 17).toNatClampNeg r35)) (h7 : ((v37 1) = 0)) (h8 : t48 = (v 17) + 1) : gsY_X11_readMan_1 NF v f w g = ((upd v37 17 t48), f46, w39, g40) := by
  subst h2 h4 h6 h8
  simp only [gsY_X11_readMan_1, h0, h1, h3, h5, if_pos h7]
def gsY_X11_readLine_1_J8 (NF : Nat) (v : Nat → Int32) (f : Nat → Nat → Int32) (w : Int64) (g : Nat → Int64) : (Nat → Int32) × (Nat → Nat → Int32) × (Int64) × (Nat → Int64) :=
  match gsY_X11_wrong_1 NF 2 v f w g with
  | (v10, f11, w12, g13) =>
    if (v10 1) = 0 then
      if (v 5) = 59 then
        if (v10 1) = 0 then
          match gsY_X11_token_1 NF v10 f11 w12 g13 with
          | (v35, f36, w37, g38) =>
            (v35, f36, w37, g38)
        else
          (v10, f11, w12, g13)
      else
        match gsY_X11_wrong_1 NF 2 v10 f11 w12 g13 with
        | (v45, f46, w47, g48) =>
          if (v45 1) = 0 then
            match gsY_X11_token_1 NF v45 f46 w47 g48 with
            | (v57, f58, w59, g60) =>
              (v57, f58, w59, g60)
          else
            (v45, f46, w47, g48)
    else
      if (v10 1) = 0 then
        match gsY_X11_token_1 NF v10 f11 w12 g13 with
        | (v23, f24, w25, g26) =>
          (v23, f24, w25, g26)
      else
        (v10, f11, w12, g13)
def gsY_X11_readLine_1_J7 (NF : Nat) (v : Nat → Int32) (f : Nat → Nat → Int32) (w : Int64) (g : Nat → Int64) : (Nat → Int32) × (Nat → Nat → Int32) × (Int64) × (Nat → Int64) :=
  if gsY_X11_isWord_1 NF (1685217655 : Int64) v f w g = 1 then
    if (v 34) = 0 then
      match gsY_X11_told_1 NF (1685217655 : Int64) 999 (upd v 34 1) f w g with
      | (r70, v72, f73, w74, g75) =>
        if (v72 1) = 0 then
          if (v72 5) = 59 then
            if (v72 1) = 0 then
              match gsY_X11_token_1 NF (upd v72 23 r70) f73 w74 g75 with
              | (v96, f97, w98, g99) =>
                (v96, f97, w98, g99)
            else
              ((upd v72 23 r70), f73, w74, g75)
          else
            match gsY_X11_wrong_1 NF 2 (upd v72 23 r70) f73 w74 g75 with
            | (v106, f107, w108, g109) =>
              if (v106 1) = 0 then
                match gsY_X11_token_1 NF v106 f107 w108 g109 with
                | (v118, f119, w120, g121) =>
                  (v118, f119, w120, g121)
              else
                (v106, f107, w108, g109)
        else
          if (v72 1) = 0 then
            match gsY_X11_token_1 NF (upd v72 23 r70) f73 w74 g75 with
            | (v84, f85, w86, g87) =>
              (v84, f85, w86, g87)
          else
            ((upd v72 23 r70), f73, w74, g75)
    else
      gsY_X11_readLine_1_J8 NF v f w g
  else
    gsY_X11_readLine_1_J8 NF v f w g
def gsY_X11_readLine_1_J6 (NF : Nat) (v : Nat → Int32) (f : Nat → Nat → Int32) (w : Int64) (g : Nat → Int64) : (Nat → Int32) × (Nat → Nat → Int32) × (Int64) × (Nat → Int64) :=
  if gsY_X11_isWord_1 NF (1918986606 : Int64) v f w g = 1 then
    if (v 33) = 0 then
      match gsY_X11_told_1 NF (1918986606 : Int64) 100 (upd v 33 1) f w g with
      | (r131, v133, f134, w135, g136) =>
        if (v133 1) = 0 then
          if (v133 5) = 59 then
            if (v133 1) = 0 then
              match gsY_X11_token_1 NF (upd v133 22 r131) f134 w135 g136 with
              | (v157, f158, w159, g160) =>
                (v157, f158, w159, g160)
            else
              ((upd v133 22 r131), f134, w135, g136)
          else
            match gsY_X11_wrong_1 NF 2 (upd v133 22 r131) f134 w135 g136 with
            | (v167, f168, w169, g170) =>
              if (v167 1) = 0 then
                match gsY_X11_token_1 NF v167 f168 w169 g170 with
                | (v179, f180, w181, g182) =>
                  (v179, f180, w181, g182)
              else
                (v167, f168, w169, g170)
        else
          if (v133 1) = 0 then
            match gsY_X11_token_1 NF (upd v133 22 r131) f134 w135 g136 with
            | (v145, f146, w147, g148) =>
              (v145, f146, w147, g148)
          else
            ((upd v133 22 r131), f134, w135, g136)
    else
      gsY_X11_readLine_1_J7 NF v f w g
  else
    gsY_X11_readLine_1_J7 NF v f w g
def gsY_X11_readLine_1_J5 (NF : Nat) (v : Nat → Int32) (f : Nat → Nat → Int32) (w : Int64) (g : Nat → Int64) : (Nat → Int32) × (Nat → Nat → Int32) × (Int64) × (Nat → Int64) :=
  if gsY_X11_isWord_1 NF (1818848101 : Int64) v f w g = 1 then
    if (v 32) = 0 then
      match gsY_X11_told_1 NF (1818848101 : Int64) 99 (upd v 32 1) f w g with
      | (r192, v194, f195, w196, g197) =>
        if (v194 1) = 0 then
          if (v194 5) = 59 then
            if (v194 1) = 0 then
              match gsY_X11_token_1 NF (upd v194 21 r192) f195 w196 g197 with
              | (v218, f219, w220, g221) =>
                (v218, f219, w220, g221)
            else
              ((upd v194 21 r192), f195, w196, g197)
          else
            match gsY_X11_wrong_1 NF 2 (upd v194 21 r192) f195 w196 g197 with
            | (v228, f229, w230, g231) =>
              if (v228 1) = 0 then
                match gsY_X11_token_1 NF v228 f229 w230 g231 with
                | (v240, f241, w242, g243) =>
                  (v240, f241, w242, g243)
              else
                (v228, f229, w230, g231)
        else
          if (v194 1) = 0 then
            match gsY_X11_token_1 NF (upd v194 21 r192) f195 w196 g197 with
            | (v206, f207, w208, g209) =>
              (v206, f207, w208, g209)
          else
            ((upd v194 21 r192), f195, w196, g197)
    else
      gsY_X11_readLine_1_J6 NF v f w g
  else
    gsY_X11_readLine_1_J6 NF v f w g
def gsY_X11_readLine_1_J4 (NF : Nat) (v : Nat → Int32) (f : Nat → Nat → Int32) (w : Int64) (g : Nat → Int64) : (Nat → Int32) × (Nat → Nat → Int32) × (Int64) × (Nat → Int64) :=
  if gsY_X11_isWord_1 NF (1651469428 : Int64) v f w g = 1 then
    if (v 31) = 0 then
      match gsY_X11_told_1 NF (1651469428 : Int64) 999 (upd v 31 1) f w g with
      | (r253, v255, f256, w257, g258) =>
        if (v255 1) = 0 then
          if (v255 5) = 59 then
            if (v255 1) = 0 then
              match gsY_X11_token_1 NF (upd v255 20 r253) f256 w257 g258 with
              | (v279, f280, w281, g282) =>
                (v279, f280, w281, g282)
            else
              ((upd v255 20 r253), f256, w257, g258)
          else
            match gsY_X11_wrong_1 NF 2 (upd v255 20 r253) f256 w257 g258 with
            | (v289, f290, w291, g292) =>
              if (v289 1) = 0 then
                match gsY_X11_token_1 NF v289 f290 w291 g292 with
                | (v301, f302, w303, g304) =>
                  (v301, f302, w303, g304)
              else
                (v289, f290, w291, g292)
        else
          if (v255 1) = 0 then
            match gsY_X11_token_1 NF (upd v255 20 r253) f256 w257 g258 with
            | (v267, f268, w269, g270) =>
              (v267, f268, w269, g270)
          else
            ((upd v255 20 r253), f256, w257, g258)
    else
      gsY_X11_readLine_1_J5 NF v f w g
  else
    gsY_X11_readLine_1_J5 NF v f w g
def gsY_X11_readLine_1_J3 (NF : Nat) (v : Nat → Int32) (f : Nat → Nat → Int32) (w : Int64) (g : Nat → Int64) : (Nat → Int32) × (Nat → Nat → Int32) × (Int64) × (Nat → Int64) :=
  if gsY_X11_isWord_1 NF (1700885369 : Int64) v f w g = 1 then
    if (v 30) = 0 then
      match gsY_X11_told_1 NF (1700885369 : Int64) 999 (upd v 30 1) f w g with
      | (r314, v316, f317, w318, g319) =>
        if (v316 1) = 0 then
          if (v316 5) = 59 then
            if (v316 1) = 0 then
              match gsY_X11_token_1 NF (upd v316 19 r314) f317 w318 g319 with
              | (v340, f341, w342, g343) =>
                (v340, f341, w342, g343)
            else
              ((upd v316 19 r314), f317, w318, g319)
          else
            match gsY_X11_wrong_1 NF 2 (upd v316 19 r314) f317 w318 g319 with
            | (v350, f351, w352, g353) =>
              if (v350 1) = 0 then
                match gsY_X11_token_1 NF v350 f351 w352 g353 with
                | (v362, f363, w364, g365) =>
                  (v362, f363, w364, g365)
              else
                (v350, f351, w352, g353)
        else
          if (v316 1) = 0 then
            match gsY_X11_token_1 NF (upd v316 19 r314) f317 w318 g319 with
            | (v328, f329, w330, g331) =>
              (v328, f329, w330, g331)
          else
            ((upd v316 19 r314), f317, w318, g319)
    else
      gsY_X11_readLine_1_J4 NF v f w g
  else
    gsY_X11_readLine_1_J4 NF v f w g
def gsY_X11_readLine_1_J2 (NF : Nat) (v : Nat → Int32) (f : Nat → Nat → Int32) (w : Int64) (g : Nat → Int64) : (Nat → Int32) × (Nat → Nat → Int32) × (Int64) × (Nat → Int64) :=
  if gsY_X11_isWord_1 NF (6909036 : Int64) v f w g = 1 then
    if (v 15) = 0 then
      match gsY_X11_formula_1 NF v f w g with
      | (v376, f377, w378, g379) =>
        if (v376 1) = 0 then
          if (v376 5) = 59 then
            if (v376 1) = 0 then
              match gsY_X11_token_1 NF v376 f377 w378 g379 with
              | (v397, f398, w399, g400) =>
                (v397, f398, w399, g400)
            else
              (v376, f377, w378, g379)
          else
            match gsY_X11_wrong_1 NF 2 v376 f377 w378 g379 with
            | (v407, f408, w409, g410) =>
              if (v407 1) = 0 then
                match gsY_X11_token_1 NF v407 f408 w409 g410 with
                | (v419, f420, w421, g422) =>
                  (v419, f420, w421, g422)
              else
                (v407, f408, w409, g410)
        else
          if (v376 1) = 0 then
            match gsY_X11_token_1 NF v376 f377 w378 g379 with
            | (v385, f386, w387, g388) =>
              (v385, f386, w387, g388)
          else
            (v376, f377, w378, g379)
    else
      gsY_X11_readLine_1_J3 NF v f w g
  else
    gsY_X11_readLine_1_J3 NF v f w g
def gsY_X11_readLine_1_J1 (NF : Nat) (v : Nat → Int32) (f : Nat → Nat → Int32) (w : Int64) (g : Nat → Int64) : (Nat → Int32) × (Nat → Nat → Int32) × (Int64) × (Nat → Int64) :=
  if gsY_X11_isWord_1 NF (1668243828 : Int64) v f w g = 1 then
    if 6 ≤ (v 18) then
      gsY_X11_readLine_1_J2 NF v f w g
    else
      match gsY_X11_readCoat_1 NF v f w g with
      | (v433, f434, w435, g436) =>
        if (v433 1) = 0 then
          if (v433 5) = 59 then
            if (v433 1) = 0 then
              match gsY_X11_token_1 NF v433 f434 w435 g436 with
              | (v457, f458, w459, g460) =>
                (v457, f458, w459, g460)
            else
              (v433, f434, w435, g436)
          else
            match gsY_X11_wrong_1 NF 2 v433 f434 w435 g436 with
            | (v467, f468, w469, g470) =>
              if (v467 1) = 0 then
                match gsY_X11_token_1 NF v467 f468 w469 g470 with
                | (v479, f480, w481, g482) =>
                  (v479, f480, w481, g482)
              else
                (v467, f468, w469, g470)
        else
          if (v433 1) = 0 then
            match gsY_X11_token_1 NF v433 f434 w435 g436 with
            | (v445, f446, w447, g448) =>
              (v445, f446, w447, g448)
          else
            (v433, f434, w435, g436)
  else
    gsY_X11_readLine_1_J2 NF v f w g
def gsY_X11_readLine_1 (NF : Nat) (v : Nat → Int32) (f : Nat → Nat → Int32) (w : Int64) (g : Nat → Int64) : (Nat → Int32) × (Nat → Nat → Int32) × (Int64) × (Nat → Int64) :=
  if gsY_X11_isWord_1 NF (7168366 : Int64) v f w g = 1 then
    if 6 ≤ (v 17) then
      gsY_X11_readLine_1_J1 NF v f w g
    else
      match gsY_X11_readMan_1 NF v f w g with
      | (v493, f494, w495, g496) =>
        if (v493 1) = 0 then
          if (v493 5) = 59 then
            if (v493 1) = 0 then
              match gsY_X11_token_1 NF v493 f494 w495 g496 with
              | (v517, f518, w519, g520) =>
                (v517, f518, w519, g520)
            else
              (v493, f494, w495, g496)
          else
            match gsY_X11_wrong_1 NF 2 v493 f494 w495 g496 with
            | (v527, f528, w529, g530) =>
              if (v527 1) = 0 then
                match gsY_X11_token_1 NF v527 f528 w529 g530 with
                | (v539, f540, w541, g542) =>
                  (v539, f540, w541, g542)
              else
                (v527, f528, w529, g530)
        else
          if (v493 1) = 0 then
            match gsY_X11_token_1 NF v493 f494 w495 g496 with
            | (v505, f506, w507, g508) =>
              (v505, f506, w507, g508)
          else
            (v493, f494, w495, g496)
  else
    gsY_X11_readLine_1_J1 NF v f w g
theorem gsY_X11_readLine_1_q62 {NF : Nat} {v : Nat → Int32} {f : Nat → Nat → Int32} {w : Int64} {g : Nat → Int64} (h0 : gsY_X11_isWord_1 NF (7168366 : Int64) v f w g = 1) (h1 : (6 ≤ (v 17))) : gsY_X11_readLine_1 NF v f w g = gsY_X11_readLine_1_J1 NF v f w g := by
  simp only [gsY_X11_readLine_1, h0, if_pos h1, ite11, ite01, if_true, if_false]
theorem gsY_X11_readLine_1_q63 {NF : Nat} {v : Nat → Int32} {f : Nat → Nat → Int32} {w : Int64} {g : Nat → Int64} {v493 : Nat → Int32} {f494 : Nat → Nat → Int32} {w495 : Int64} {g496 : Nat → Int64} (h0 : gsY_X11_isWord_1 NF (7168366 : Int64) v f w g = 1) (h1 : ¬ (6 ≤ (v 17))) (h2 : gsY_X11_readMan_1 NF v f w g = (v493, f494, w495, g496)) (h3 : ¬ ((v493 1) = 0)) (h4 : ¬ ((v493 1) = 0)) : gsY_X11_readLine_1 NF v f w g = (v493, f494, w495, g496) := by
  simp only [gsY_X11_readLine_1, h0, if_neg h1, h2, if_neg h3, if_neg h4, ite11, ite01, if_true, if_false]
theorem gsY_X11_readLine_1_q64 {NF : Nat} {v : Nat → Int32} {f : Nat → Nat → Int32} {w : Int64} {g : Nat → Int64} {v493 : Nat → Int32} {f494 : Nat → Nat → Int32} {w495 : Int64} {g496 : Nat → Int64} {v505 : Nat → Int32} {f506 : Nat → Nat → Int32} {w507 : Int64} {g508 : Nat → Int64} (h0 : gsY_X11_isWord_1 NF (7168366 : Int64) v f w g = 1) (h1 : ¬ (6 ≤ (v 17))) (h2 : gsY_X11_readMan_1 NF v f w g = (v493, f494, w495, g496)) (h3 : ¬ ((v493 1) = 0)) (h4 : ((v493 1) = 0)) (h5 : gsY_X11_token_1 NF v493 f494 w495 g496 = (v505, f506, w507, g508)) : gsY_X11_readLine_1 NF v f w g = (v505, f506, w507, g508) := by
  exact absurd h4 h3
theorem gsY_X11_readLine_1_q65 {NF : Nat} {v : Nat → Int32} {f : Nat → Nat → Int32} {w : Int64} {g : Nat → Int64} {v493 : Nat → Int32} {f494 : Nat → Nat → Int32} {w495 : Int64} {g496 : Nat → Int64} (h0 : gsY_X11_isWord_1 NF (7168366 : Int64) v f w g = 1) (h1 : ¬ (6 ≤ (v 17))) (h2 : gsY_X11_readMan_1 NF v f w g = (v493, f494, w495, g496)) (h3 : ((v493 1) = 0)) (h4 : ((v493 5) = 59)) (h5 : ¬ ((v493 1) = 0)) : gsY_X11_readLine_1 NF v f w g = (v493, f494, w495, g496) := by
  exact absurd h3 h5
theorem gsY_X11_readLine_1_q66 {NF : Nat} {v : Nat → Int32} {f : Nat → Nat → Int32} {w : Int64} {g : Nat → Int64} {v493 : Nat → Int32} {f494 : Nat → Nat → Int32} {w495 : Int64} {g496 : Nat → Int64} {v517 : Nat → Int32} {f518 : Nat → Nat → Int32} {w519 : Int64} {g520 : Nat → Int64} (h0 : gsY_X11_isWord_1 NF (7168366 : Int64) v f w g = 1) (h1 : ¬ (6 ≤ (v 17))) (h2 : gsY_X11_readMan_1 NF v f w g = (v493, f494, w495, g496)) (h3 : ((v493 1) = 0)) (h4 : ((v493 5) = 59)) (h5 : ((v493 1) = 0)) (h6 : gsY_X11_token_1 NF v493 f494 w495 g496 = (v517, f518, w519, g520)) : gsY_X11_readLine_1 NF v f w g = (v517, f518, w519, g520) := by
  simp only [gsY_X11_readLine_1, h0, if_neg h1, h2, if_pos h3, if_pos h4, if_pos h5, h6, ite11, ite01, if_true, if_false]
theorem gsY_X11_readLine_1_q67 {NF : Nat} {v : Nat → Int32} {f : Nat → Nat → Int32} {w : Int64} {g : Nat → Int64} {v493 : Nat → Int32} {f494 : Nat → Nat → Int32} {w495 : Int64} {g496 : Nat → Int64} {v527 : Nat → Int32} {f528 : Nat → Nat → Int32} {w529 : Int64} {g530 : Nat → Int64} (h0 : gsY_X11_isWord_1 NF (7168366 : Int64) v f w g = 1) (h1 : ¬ (6 ≤ (v 17))) (h2 : gsY_X11_readMan_1 NF v f w g = (v493, f494, w495, g496)) (h3 : ((v493 1) = 0)) (h4 : ¬ ((v493 5) = 59)) (h5 : gsY_X11_wrong_1 NF 2 v493 f494 w495 g496 = (v527, f528, w529, g530)) (h6 : ¬ ((v527 1) = 0)) : gsY_X11_readLine_1 NF v f w g = (v527, f528, w529, g530) := by
  simp only [gsY_X11_readLine_1, h0, if_neg h1, h2, if_pos h3, if_neg h4, h5, if_neg h6, ite11, ite01, if_true, if_false]
theorem gsY_X11_readLine_1_q68 {NF : Nat} {v : Nat → Int32} {f : Nat → Nat → Int32} {w : Int64} {g : Nat → Int64} {v493 : Nat → Int32} {f494 : Nat → Nat → Int32} {w495 : Int64} {g496 : Nat → Int64} {v527 : Nat → Int32} {f528 : Nat → Nat → Int32} {w529 : Int64} {g530 : Nat → Int64} {v539 : Nat → Int32} {f540 : Nat → Nat → Int32} {w541 : Int64} {g542 : Nat → Int64} (h0 : gsY_X11_isWord_1 NF (7168366 : Int64) v f w g = 1) (h1 : ¬ (6 ≤ (v 17))) (h2 : gsY_X11_readMan_1 NF v f w g = (v493, f494, w495, g496)) (h3 : ((v493 1) = 0)) (h4 : ¬ ((v493 5) = 59)) (h5 : gsY_X11_wrong_1 NF 2 v493 f494 w495 g496 = (v527, f528, w529, g530)) (h6 : ((v527 1) = 0)) (h7 : gsY_X11_token_1 NF v527 f528 w529 g530 = (v539, f540, w541, g542)) : gsY_X11_readLine_1 NF v f w g = (v539, f540, w541, g542) := by
  simp only [gsY_X11_readLine_1, h0, if_neg h1, h2, if_pos h3, if_neg h4, h5, if_pos h6, h7, ite11, ite01, if_true, if_false]
theorem gsY_X11_readLine_1_q69 {NF : Nat} {v : Nat → Int32} {f : Nat → Nat → Int32} {w : Int64} {g : Nat → Int64} (h0 : gsY_X11_isWord_1 NF (7168366 : Int64) v f w g = 0) : gsY_X11_readLine_1 NF v f w g = gsY_X11_readLine_1_J1 NF v f w g := by
  simp only [gsY_X11_readLine_1, h0, ite11, ite01, if_true, if_false]
theorem gsY_X11_readLine_1_q54 {NF : Nat} {v : Nat → Int32} {f : Nat → Nat → Int32} {w : Int64} {g : Nat → Int64} (h0 : gsY_X11_isWord_1 NF (1668243828 : Int64) v f w g = 1) (h1 : (6 ≤ (v 18))) : gsY_X11_readLine_1_J1 NF v f w g = gsY_X11_readLine_1_J2 NF v f w g := by
  simp only [gsY_X11_readLine_1_J1, h0, if_pos h1, ite11, ite01, if_true, if_false]
theorem gsY_X11_readLine_1_q55 {NF : Nat} {v : Nat → Int32} {f : Nat → Nat → Int32} {w : Int64} {g : Nat → Int64} {v433 : Nat → Int32} {f434 : Nat → Nat → Int32} {w435 : Int64} {g436 : Nat → Int64} (h0 : gsY_X11_isWord_1 NF (1668243828 : Int64) v f w g = 1) (h1 : ¬ (6 ≤ (v 18))) (h2 : gsY_X11_readCoat_1 NF v f w g = (v433, f434, w435, g436)) (h3 : ¬ ((v433 1) = 0)) (h4 : ¬ ((v433 1) = 0)) : gsY_X11_readLine_1_J1 NF v f w g = (v433, f434, w435, g436) := by
  simp only [gsY_X11_readLine_1_J1, h0, if_neg h1, h2, if_neg h3, if_neg h4, ite11, ite01, if_true, if_false]
theorem gsY_X11_readLine_1_q56 {NF : Nat} {v : Nat → Int32} {f : Nat → Nat → Int32} {w : Int64} {g : Nat → Int64} {v433 : Nat → Int32} {f434 : Nat → Nat → Int32} {w435 : Int64} {g436 : Nat → Int64} {v445 : Nat → Int32} {f446 : Nat → Nat → Int32} {w447 : Int64} {g448 : Nat → Int64} (h0 : gsY_X11_isWord_1 NF (1668243828 : Int64) v f w g = 1) (h1 : ¬ (6 ≤ (v 18))) (h2 : gsY_X11_readCoat_1 NF v f w g = (v433, f434, w435, g436)) (h3 : ¬ ((v433 1) = 0)) (h4 : ((v433 1) = 0)) (h5 : gsY_X11_token_1 NF v433 f434 w435 g436 = (v445, f446, w447, g448)) : gsY_X11_readLine_1_J1 NF v f w g = (v445, f446, w447, g448) := by
  exact absurd h4 h3
theorem gsY_X11_readLine_1_q57 {NF : Nat} {v : Nat → Int32} {f : Nat → Nat → Int32} {w : Int64} {g : Nat → Int64} {v433 : Nat → Int32} {f434 : Nat → Nat → Int32} {w435 : Int64} {g436 : Nat → Int64} (h0 : gsY_X11_isWord_1 NF (1668243828 : Int64) v f w g = 1) (h1 : ¬ (6 ≤ (v 18))) (h2 : gsY_X11_readCoat_1 NF v f w g = (v433, f434, w435, g436)) (h3 : ((v433 1) = 0)) (h4 : ((v433 5) = 59)) (h5 : ¬ ((v433 1) = 0)) : gsY_X11_readLine_1_J1 NF v f w g = (v433, f434, w435, g436) := by
  exact absurd h3 h5
theorem gsY_X11_readLine_1_q58 {NF : Nat} {v : Nat → Int32} {f : Nat → Nat → Int32} {w : Int64} {g : Nat → Int64} {v433 : Nat → Int32} {f434 : Nat → Nat → Int32} {w435 : Int64} {g436 : Nat → Int64} {v457 : Nat → Int32} {f458 : Nat → Nat → Int32} {w459 : Int64} {g460 : Nat → Int64} (h0 : gsY_X11_isWord_1 NF (1668243828 : Int64) v f w g = 1) (h1 : ¬ (6 ≤ (v 18))) (h2 : gsY_X11_readCoat_1 NF v f w g = (v433, f434, w435, g436)) (h3 : ((v433 1) = 0)) (h4 : ((v433 5) = 59)) (h5 : ((v433 1) = 0)) (h6 : gsY_X11_token_1 NF v433 f434 w435 g436 = (v457, f458, w459, g460)) : gsY_X11_readLine_1_J1 NF v f w g = (v457, f458, w459, g460) := by
  simp only [gsY_X11_readLine_1_J1, h0, if_neg h1, h2, if_pos h3, if_pos h4, if_pos h5, h6, ite11, ite01, if_true, if_false]
theorem gsY_X11_readLine_1_q59 {NF : Nat} {v : Nat → Int32} {f : Nat → Nat → Int32} {w : Int64} {g : Nat → Int64} {v433 : Nat → Int32} {f434 : Nat → Nat → Int32} {w435 : Int64} {g436 : Nat → Int64} {v467 : Nat → Int32} {f468 : Nat → Nat → Int32} {w469 : Int64} {g470 : Nat → Int64} (h0 : gsY_X11_isWord_1 NF (1668243828 : Int64) v f w g = 1) (h1 : ¬ (6 ≤ (v 18))) (h2 : gsY_X11_readCoat_1 NF v f w g = (v433, f434, w435, g436)) (h3 : ((v433 1) = 0)) (h4 : ¬ ((v433 5) = 59)) (h5 : gsY_X11_wrong_1 NF 2 v433 f434 w435 g436 = (v467, f468, w469, g470)) (h6 : ¬ ((v467 1) = 0)) : gsY_X11_readLine_1_J1 NF v f w g = (v467, f468, w469, g470) := by
  simp only [gsY_X11_readLine_1_J1, h0, if_neg h1, h2, if_pos h3, if_neg h4, h5, if_neg h6, ite11, ite01, if_true, if_false]
theorem gsY_X11_readLine_1_q60 {NF : Nat} {v : Nat → Int32} {f : Nat → Nat → Int32} {w : Int64} {g : Nat → Int64} {v433 : Nat → Int32} {f434 : Nat → Nat → Int32} {w435 : Int64} {g436 : Nat → Int64} {v467 : Nat → Int32} {f468 : Nat → Nat → Int32} {w469 : Int64} {g470 : Nat → Int64} {v479 : Nat → Int32} {f480 : Nat → Nat → Int32} {w481 : Int64} {g482 : Nat → Int64} (h0 : gsY_X11_isWord_1 NF (1668243828 : Int64) v f w g = 1) (h1 : ¬ (6 ≤ (v 18))) (h2 : gsY_X11_readCoat_1 NF v f w g = (v433, f434, w435, g436)) (h3 : ((v433 1) = 0)) (h4 : ¬ ((v433 5) = 59)) (h5 : gsY_X11_wrong_1 NF 2 v433 f434 w435 g436 = (v467, f468, w469, g470)) (h6 : ((v467 1) = 0)) (h7 : gsY_X11_token_1 NF v467 f468 w469 g470 = (v479, f480, w481, g482)) : gsY_X11_readLine_1_J1 NF v f w g = (v479, f480, w481, g482) := by
  simp only [gsY_X11_readLine_1_J1, h0, if_neg h1, h2, if_pos h3, if_neg h4, h5, if_pos h6, h7, ite11, ite01, if_true, if_false]
theorem gsY_X11_readLine_1_q61 {NF : Nat} {v : Nat → Int32} {f : Nat → Nat → Int32} {w : Int64} {g : Nat → Int64} (h0 : gsY_X11_isWord_1 NF (1668243828 : Int64) v f w g = 0) : gsY_X11_readLine_1_J1 NF v f w g = gsY_X11_readLine_1_J2 NF v f w g := by
  simp only [gsY_X11_readLine_1_J1, h0, ite11, ite01, if_true, if_false]
theorem gsY_X11_readLine_1_q46 {NF : Nat} {v : Nat → Int32} {f : Nat → Nat → Int32} {w : Int64} {g : Nat → Int64} (h0 : gsY_X11_isWord_1 NF (6909036 : Int64) v f w g = 1) (h1 : ¬ ((v 15) = 0)) : gsY_X11_readLine_1_J2 NF v f w g = gsY_X11_readLine_1_J3 NF v f w g := by
  simp only [gsY_X11_readLine_1_J2, h0, if_neg h1, ite11, ite01, if_true, if_false]
theorem gsY_X11_readLine_1_q47 {NF : Nat} {v : Nat → Int32} {f : Nat → Nat → Int32} {w : Int64} {g : Nat → Int64} {v376 : Nat → Int32} {f377 : Nat → Nat → Int32} {w378 : Int64} {g379 : Nat → Int64} (h0 : gsY_X11_isWord_1 NF (6909036 : Int64) v f w g = 1) (h1 : ((v 15) = 0)) (h2 : gsY_X11_formula_1 NF v f w g = (v376, f377, w378, g379)) (h3 : ¬ ((v376 1) = 0)) (h4 : ¬ ((v376 1) = 0)) : gsY_X11_readLine_1_J2 NF v f w g = (v376, f377, w378, g379) := by
  simp only [gsY_X11_readLine_1_J2, h0, if_pos h1, h2, if_neg h3, if_neg h4, ite11, ite01, if_true, if_false]
theorem gsY_X11_readLine_1_q48 {NF : Nat} {v : Nat → Int32} {f : Nat → Nat → Int32} {w : Int64} {g : Nat → Int64} {v376 : Nat → Int32} {f377 : Nat → Nat → Int32} {w378 : Int64} {g379 : Nat → Int64} {v385 : Nat → Int32} {f386 : Nat → Nat → Int32} {w387 : Int64} {g388 : Nat → Int64} (h0 : gsY_X11_isWord_1 NF (6909036 : Int64) v f w g = 1) (h1 : ((v 15) = 0)) (h2 : gsY_X11_formula_1 NF v f w g = (v376, f377, w378, g379)) (h3 : ¬ ((v376 1) = 0)) (h4 : ((v376 1) = 0)) (h5 : gsY_X11_token_1 NF v376 f377 w378 g379 = (v385, f386, w387, g388)) : gsY_X11_readLine_1_J2 NF v f w g = (v385, f386, w387, g388) := by
  exact absurd h4 h3
theorem gsY_X11_readLine_1_q49 {NF : Nat} {v : Nat → Int32} {f : Nat → Nat → Int32} {w : Int64} {g : Nat → Int64} {v376 : Nat → Int32} {f377 : Nat → Nat → Int32} {w378 : Int64} {g379 : Nat → Int64} (h0 : gsY_X11_isWord_1 NF (6909036 : Int64) v f w g = 1) (h1 : ((v 15) = 0)) (h2 : gsY_X11_formula_1 NF v f w g = (v376, f377, w378, g379)) (h3 : ((v376 1) = 0)) (h4 : ((v376 5) = 59)) (h5 : ¬ ((v376 1) = 0)) : gsY_X11_readLine_1_J2 NF v f w g = (v376, f377, w378, g379) := by
  exact absurd h3 h5
theorem gsY_X11_readLine_1_q50 {NF : Nat} {v : Nat → Int32} {f : Nat → Nat → Int32} {w : Int64} {g : Nat → Int64} {v376 : Nat → Int32} {f377 : Nat → Nat → Int32} {w378 : Int64} {g379 : Nat → Int64} {v397 : Nat → Int32} {f398 : Nat → Nat → Int32} {w399 : Int64} {g400 : Nat → Int64} (h0 : gsY_X11_isWord_1 NF (6909036 : Int64) v f w g = 1) (h1 : ((v 15) = 0)) (h2 : gsY_X11_formula_1 NF v f w g = (v376, f377, w378, g379)) (h3 : ((v376 1) = 0)) (h4 : ((v376 5) = 59)) (h5 : ((v376 1) = 0)) (h6 : gsY_X11_token_1 NF v376 f377 w378 g379 = (v397, f398, w399, g400)) : gsY_X11_readLine_1_J2 NF v f w g = (v397, f398, w399, g400) := by
  simp only [gsY_X11_readLine_1_J2, h0, if_pos h1, h2, if_pos h3, if_pos h4, if_pos h5, h6, ite11, ite01, if_true, if_false]
theorem gsY_X11_readLine_1_q51 {NF : Nat} {v : Nat → Int32} {f : Nat → Nat → Int32} {w : Int64} {g : Nat → Int64} {v376 : Nat → Int32} {f377 : Nat → Nat → Int32} {w378 : Int64} {g379 : Nat → Int64} {v407 : Nat → Int32} {f408 : Nat → Nat → Int32} {w409 : Int64} {g410 : Nat → Int64} (h0 : gsY_X11_isWord_1 NF (6909036 : Int64) v f w g = 1) (h1 : ((v 15) = 0)) (h2 : gsY_X11_formula_1 NF v f w g = (v376, f377, w378, g379)) (h3 : ((v376 1) = 0)) (h4 : ¬ ((v376 5) = 59)) (h5 : gsY_X11_wrong_1 NF 2 v376 f377 w378 g379 = (v407, f408, w409, g410)) (h6 : ¬ ((v407 1) = 0)) : gsY_X11_readLine_1_J2 NF v f w g = (v407, f408, w409, g410) := by
  simp only [gsY_X11_readLine_1_J2, h0, if_pos h1, h2, if_pos h3, if_neg h4, h5, if_neg h6, ite11, ite01, if_true, if_false]
theorem gsY_X11_readLine_1_q52 {NF : Nat} {v : Nat → Int32} {f : Nat → Nat → Int32} {w : Int64} {g : Nat → Int64} {v376 : Nat → Int32} {f377 : Nat → Nat → Int32} {w378 : Int64} {g379 : Nat → Int64} {v407 : Nat → Int32} {f408 : Nat → Nat → Int32} {w409 : Int64} {g410 : Nat → Int64} {v419 : Nat → Int32} {f420 : Nat → Nat → Int32} {w421 : Int64} {g422 : Nat → Int64} (h0 : gsY_X11_isWord_1 NF (6909036 : Int64) v f w g = 1) (h1 : ((v 15) = 0)) (h2 : gsY_X11_formula_1 NF v f w g = (v376, f377, w378, g379)) (h3 : ((v376 1) = 0)) (h4 : ¬ ((v376 5) = 59)) (h5 : gsY_X11_wrong_1 NF 2 v376 f377 w378 g379 = (v407, f408, w409, g410)) (h6 : ((v407 1) = 0)) (h7 : gsY_X11_token_1 NF v407 f408 w409 g410 = (v419, f420, w421, g422)) : gsY_X11_readLine_1_J2 NF v f w g = (v419, f420, w421, g422) := by
  simp only [gsY_X11_readLine_1_J2, h0, if_pos h1, h2, if_pos h3, if_neg h4, h5, if_pos h6, h7, ite11, ite01, if_true, if_false]
theorem gsY_X11_readLine_1_q53 {NF : Nat} {v : Nat → Int32} {f : Nat → Nat → Int32} {w : Int64} {g : Nat → Int64} (h0 : gsY_X11_isWord_1 NF (6909036 : Int64) v f w g = 0) : gsY_X11_readLine_1_J2 NF v f w g = gsY_X11_readLine_1_J3 NF v f w g := by
  simp only [gsY_X11_readLine_1_J2, h0, ite11, ite01, if_true, if_false]
theorem gsY_X11_readLine_1_q38 {NF : Nat} {v : Nat → Int32} {f : Nat → Nat → Int32} {w : Int64} {g : Nat → Int64} (h0 : gsY_X11_isWord_1 NF (1700885369 : Int64) v f w g = 1) (h1 : ¬ ((v 30) = 0)) : gsY_X11_readLine_1_J3 NF v f w g = gsY_X11_readLine_1_J4 NF v f w g := by
  simp only [gsY_X11_readLine_1_J3, h0, if_neg h1, ite11, ite01, if_true, if_false]
theorem gsY_X11_readLine_1_q39 {NF : Nat} {v : Nat → Int32} {f : Nat → Nat → Int32} {w : Int64} {g : Nat → Int64} {r314 : Int32} {v316 : Nat → Int32} {f317 : Nat → Nat → Int32} {w318 : Int64} {g319 : Nat → Int64} (h0 : gsY_X11_isWord_1 NF (1700885369 : Int64) v f w g = 1) (h1 : ((v 30) = 0)) (h2 : gsY_X11_told_1 NF (1700885369 : Int64) 999 (upd v 30 1) f w g = (r314, v316, f317, w318, g319)) (h3 : ¬ ((v316 1) = 0)) (h4 : ¬ ((v316 1) = 0)) : gsY_X11_readLine_1_J3 NF v f w g = ((upd v316 19 r314), f317, w318, g319) := by
  simp only [gsY_X11_readLine_1_J3, h0, if_pos h1, h2, if_neg h3, if_neg h4, ite11, ite01, if_true, if_false]
theorem gsY_X11_readLine_1_q40 {NF : Nat} {v : Nat → Int32} {f : Nat → Nat → Int32} {w : Int64} {g : Nat → Int64} {r314 : Int32} {v316 : Nat → Int32} {f317 : Nat → Nat → Int32} {w318 : Int64} {g319 : Nat → Int64} {v328 : Nat → Int32} {f329 : Nat → Nat → Int32} {w330 : Int64} {g331 : Nat → Int64} (h0 : gsY_X11_isWord_1 NF (1700885369 : Int64) v f w g = 1) (h1 : ((v 30) = 0)) (h2 : gsY_X11_told_1 NF (1700885369 : Int64) 999 (upd v 30 1) f w g = (r314, v316, f317, w318, g319)) (h3 : ¬ ((v316 1) = 0)) (h4 : ((v316 1) = 0)) (h5 : gsY_X11_token_1 NF (upd v316 19 r314) f317 w318 g319 = (v328, f329, w330, g331)) : gsY_X11_readLine_1_J3 NF v f w g = (v328, f329, w330, g331) := by
  exact absurd h4 h3
theorem gsY_X11_readLine_1_q41 {NF : Nat} {v : Nat → Int32} {f : Nat → Nat → Int32} {w : Int64} {g : Nat → Int64} {r314 : Int32} {v316 : Nat → Int32} {f317 : Nat → Nat → Int32} {w318 : Int64} {g319 : Nat → Int64} (h0 : gsY_X11_isWord_1 NF (1700885369 : Int64) v f w g = 1) (h1 : ((v 30) = 0)) (h2 : gsY_X11_told_1 NF (1700885369 : Int64) 999 (upd v 30 1) f w g = (r314, v316, f317, w318, g319)) (h3 : ((v316 1) = 0)) (h4 : ((v316 5) = 59)) (h5 : ¬ ((v316 1) = 0)) : gsY_X11_readLine_1_J3 NF v f w g = ((upd v316 19 r314), f317, w318, g319) := by
  exact absurd h3 h5
theorem gsY_X11_readLine_1_q42 {NF : Nat} {v : Nat → Int32} {f : Nat → Nat → Int32} {w : Int64} {g : Nat → Int64} {r314 : Int32} {v316 : Nat → Int32} {f317 : Nat → Nat → Int32} {w318 : Int64} {g319 : Nat → Int64} {v340 : Nat → Int32} {f341 : Nat → Nat → Int32} {w342 : Int64} {g343 : Nat → Int64} (h0 : gsY_X11_isWord_1 NF (1700885369 : Int64) v f w g = 1) (h1 : ((v 30) = 0)) (h2 : gsY_X11_told_1 NF (1700885369 : Int64) 999 (upd v 30 1) f w g = (r314, v316, f317, w318, g319)) (h3 : ((v316 1) = 0)) (h4 : ((v316 5) = 59)) (h5 : ((v316 1) = 0)) (h6 : gsY_X11_token_1 NF (upd v316 19 r314) f317 w318 g319 = (v340, f341, w342, g343)) : gsY_X11_readLine_1_J3 NF v f w g = (v340, f341, w342, g343) := by
  simp only [gsY_X11_readLine_1_J3, h0, if_pos h1, h2, if_pos h3, if_pos h4, if_pos h5, h6, ite11, ite01, if_true, if_false]
theorem gsY_X11_readLine_1_q43 {NF : Nat} {v : Nat → Int32} {f : Nat → Nat → Int32} {w : Int64} {g : Nat → Int64} {r314 : Int32} {v316 : Nat → Int32} {f317 : Nat → Nat → Int32} {w318 : Int64} {g319 : Nat → Int64} {v350 : Nat → Int32} {f351 : Nat → Nat → Int32} {w352 : Int64} {g353 : Nat → Int64} (h0 : gsY_X11_isWord_1 NF (1700885369 : Int64) v f w g = 1) (h1 : ((v 30) = 0)) (h2 : gsY_X11_told_1 NF (1700885369 : Int64) 999 (upd v 30 1) f w g = (r314, v316, f317, w318, g319)) (h3 : ((v316 1) = 0)) (h4 : ¬ ((v316 5) = 59)) (h5 : gsY_X11_wrong_1 NF 2 (upd v316 19 r314) f317 w318 g319 = (v350, f351, w352, g353)) (h6 : ¬ ((v350 1) = 0)) : gsY_X11_readLine_1_J3 NF v f w g = (v350, f351, w352, g353) := by
  simp only [gsY_X11_readLine_1_J3, h0, if_pos h1, h2, if_pos h3, if_neg h4, h5, if_neg h6, ite11, ite01, if_true, if_false]
theorem gsY_X11_readLine_1_q44 {NF : Nat} {v : Nat → Int32} {f : Nat → Nat → Int32} {w : Int64} {g : Nat → Int64} {r314 : Int32} {v316 : Nat → Int32} {f317 : Nat → Nat → Int32} {w318 : Int64} {g319 : Nat → Int64} {v350 : Nat → Int32} {f351 : Nat → Nat → Int32} {w352 : Int64} {g353 : Nat → Int64} {v362 : Nat → Int32} {f363 : Nat → Nat → Int32} {w364 : Int64} {g365 : Nat → Int64} (h0 : gsY_X11_isWord_1 NF (1700885369 : Int64) v f w g = 1) (h1 : ((v 30) = 0)) (h2 : gsY_X11_told_1 NF (1700885369 : Int64) 999 (upd v 30 1) f w g = (r314, v316, f317, w318, g319)) (h3 : ((v316 1) = 0)) (h4 : ¬ ((v316 5) = 59)) (h5 : gsY_X11_wrong_1 NF 2 (upd v316 19 r314) f317 w318 g319 = (v350, f351, w352, g353)) (h6 : ((v350 1) = 0)) (h7 : gsY_X11_token_1 NF v350 f351 w352 g353 = (v362, f363, w364, g365)) : gsY_X11_readLine_1_J3 NF v f w g = (v362, f363, w364, g365) := by
  simp only [gsY_X11_readLine_1_J3, h0, if_pos h1, h2, if_pos h3, if_neg h4, h5, if_pos h6, h7, ite11, ite01, if_true, if_false]
theorem gsY_X11_readLine_1_q45 {NF : Nat} {v : Nat → Int32} {f : Nat → Nat → Int32} {w : Int64} {g : Nat → Int64} (h0 : gsY_X11_isWord_1 NF (1700885369 : Int64) v f w g = 0) : gsY_X11_readLine_1_J3 NF v f w g = gsY_X11_readLine_1_J4 NF v f w g := by
  simp only [gsY_X11_readLine_1_J3, h0, ite11, ite01, if_true, if_false]
theorem gsY_X11_readLine_1_q30 {NF : Nat} {v : Nat → Int32} {f : Nat → Nat → Int32} {w : Int64} {g : Nat → Int64} (h0 : gsY_X11_isWord_1 NF (1651469428 : Int64) v f w g = 1) (h1 : ¬ ((v 31) = 0)) : gsY_X11_readLine_1_J4 NF v f w g = gsY_X11_readLine_1_J5 NF v f w g := by
  simp only [gsY_X11_readLine_1_J4, h0, if_neg h1, ite11, ite01, if_true, if_false]
theorem gsY_X11_readLine_1_q31 {NF : Nat} {v : Nat → Int32} {f : Nat → Nat → Int32} {w : Int64} {g : Nat → Int64} {r253 : Int32} {v255 : Nat → Int32} {f256 : Nat → Nat → Int32} {w257 : Int64} {g258 : Nat → Int64} (h0 : gsY_X11_isWord_1 NF (1651469428 : Int64) v f w g = 1) (h1 : ((v 31) = 0)) (h2 : gsY_X11_told_1 NF (1651469428 : Int64) 999 (upd v 31 1) f w g = (r253, v255, f256, w257, g258)) (h3 : ¬ ((v255 1) = 0)) (h4 : ¬ ((v255 1) = 0)) : gsY_X11_readLine_1_J4 NF v f w g = ((upd v255 20 r253), f256, w257, g258) := by
  simp only [gsY_X11_readLine_1_J4, h0, if_pos h1, h2, if_neg h3, if_neg h4, ite11, ite01, if_true, if_false]
theorem gsY_X11_readLine_1_q32 {NF : Nat} {v : Nat → Int32} {f : Nat → Nat → Int32} {w : Int64} {g : Nat → Int64} {r253 : Int32} {v255 : Nat → Int32} {f256 : Nat → Nat → Int32} {w257 : Int64} {g258 : Nat → Int64} {v267 : Nat → Int32} {f268 : Nat → Nat → Int32} {w269 : Int64} {g270 : Nat → Int64} (h0 : gsY_X11_isWord_1 NF (1651469428 : Int64) v f w g = 1) (h1 : ((v 31) = 0)) (h2 : gsY_X11_told_1 NF (1651469428 : Int64) 999 (upd v 31 1) f w g = (r253, v255, f256, w257, g258)) (h3 : ¬ ((v255 1) = 0)) (h4 : ((v255 1) = 0)) (h5 : gsY_X11_token_1 NF (upd v255 20 r253) f256 w257 g258 = (v267, f268, w269, g270)) : gsY_X11_readLine_1_J4 NF v f w g = (v267, f268, w269, g270) := by
  exact absurd h4 h3
theorem gsY_X11_readLine_1_q33 {NF : Nat} {v : Nat → Int32} {f : Nat → Nat → Int32} {w : Int64} {g : Nat → Int64} {r253 : Int32} {v255 : Nat → Int32} {f256 : Nat → Nat → Int32} {w257 : Int64} {g258 : Nat → Int64} (h0 : gsY_X11_isWord_1 NF (1651469428 : Int64) v f w g = 1) (h1 : ((v 31) = 0)) (h2 : gsY_X11_told_1 NF (1651469428 : Int64) 999 (upd v 31 1) f w g = (r253, v255, f256, w257, g258)) (h3 : ((v255 1) = 0)) (h4 : ((v255 5) = 59)) (h5 : ¬ ((v255 1) = 0)) : gsY_X11_readLine_1_J4 NF v f w g = ((upd v255 20 r253), f256, w257, g258) := by
  exact absurd h3 h5
theorem gsY_X11_readLine_1_q34 {NF : Nat} {v : Nat → Int32} {f : Nat → Nat → Int32} {w : Int64} {g : Nat → Int64} {r253 : Int32} {v255 : Nat → Int32} {f256 : Nat → Nat → Int32} {w257 : Int64} {g258 : Nat → Int64} {v279 : Nat → Int32} {f280 : Nat → Nat → Int32} {w281 : Int64} {g282 : Nat → Int64} (h0 : gsY_X11_isWord_1 NF (1651469428 : Int64) v f w g = 1) (h1 : ((v 31) = 0)) (h2 : gsY_X11_told_1 NF (1651469428 : Int64) 999 (upd v 31 1) f w g = (r253, v255, f256, w257, g258)) (h3 : ((v255 1) = 0)) (h4 : ((v255 5) = 59)) (h5 : ((v255 1) = 0)) (h6 : gsY_X11_token_1 NF (upd v255 20 r253) f256 w257 g258 = (v279, f280, w281, g282)) : gsY_X11_readLine_1_J4 NF v f w g = (v279, f280, w281, g282) := by
  simp only [gsY_X11_readLine_1_J4, h0, if_pos h1, h2, if_pos h3, if_pos h4, if_pos h5, h6, ite11, ite01, if_true, if_false]
theorem gsY_X11_readLine_1_q35 {NF : Nat} {v : Nat → Int32} {f : Nat → Nat → Int32} {w : Int64} {g : Nat → Int64} {r253 : Int32} {v255 : Nat → Int32} {f256 : Nat → Nat → Int32} {w257 : Int64} {g258 : Nat → Int64} {v289 : Nat → Int32} {f290 : Nat → Nat → Int32} {w291 : Int64} {g292 : Nat → Int64} (h0 : gsY_X11_isWord_1 NF (1651469428 : Int64) v f w g = 1) (h1 : ((v 31) = 0)) (h2 : gsY_X11_told_1 NF (1651469428 : Int64) 999 (upd v 31 1) f w g = (r253, v255, f256, w257, g258)) (h3 : ((v255 1) = 0)) (h4 : ¬ ((v255 5) = 59)) (h5 : gsY_X11_wrong_1 NF 2 (upd v255 20 r253) f256 w257 g258 = (v289, f290, w291, g292)) (h6 : ¬ ((v289 1) = 0)) : gsY_X11_readLine_1_J4 NF v f w g = (v289, f290, w291, g292) := by
  simp only [gsY_X11_readLine_1_J4, h0, if_pos h1, h2, if_pos h3, if_neg h4, h5, if_neg h6, ite11, ite01, if_true, if_false]
theorem gsY_X11_readLine_1_q36 {NF : Nat} {v : Nat → Int32} {f : Nat → Nat → Int32} {w : Int64} {g : Nat → Int64} {r253 : Int32} {v255 : Nat → Int32} {f256 : Nat → Nat → Int32} {w257 : Int64} {g258 : Nat → Int64} {v289 : Nat → Int32} {f290 : Nat → Nat → Int32} {w291 : Int64} {g292 : Nat → Int64} {v301 : Nat → Int32} {f302 : Nat → Nat → Int32} {w303 : Int64} {g304 : Nat → Int64} (h0 : gsY_X11_isWord_1 NF (1651469428 : Int64) v f w g = 1) (h1 : ((v 31) = 0)) (h2 : gsY_X11_told_1 NF (1651469428 : Int64) 999 (upd v 31 1) f w g = (r253, v255, f256, w257, g258)) (h3 : ((v255 1) = 0)) (h4 : ¬ ((v255 5) = 59)) (h5 : gsY_X11_wrong_1 NF 2 (upd v255 20 r253) f256 w257 g258 = (v289, f290, w291, g292)) (h6 : ((v289 1) = 0)) (h7 : gsY_X11_token_1 NF v289 f290 w291 g292 = (v301, f302, w303, g304)) : gsY_X11_readLine_1_J4 NF v f w g = (v301, f302, w303, g304) := by
  simp only [gsY_X11_readLine_1_J4, h0, if_pos h1, h2, if_pos h3, if_neg h4, h5, if_pos h6, h7, ite11, ite01, if_true, if_false]
theorem gsY_X11_readLine_1_q37 {NF : Nat} {v : Nat → Int32} {f : Nat → Nat → Int32} {w : Int64} {g : Nat → Int64} (h0 : gsY_X11_isWord_1 NF (1651469428 : Int64) v f w g = 0) : gsY_X11_readLine_1_J4 NF v f w g = gsY_X11_readLine_1_J5 NF v f w g := by
  simp only [gsY_X11_readLine_1_J4, h0, ite11, ite01, if_true, if_false]
theorem gsY_X11_readLine_1_q22 {NF : Nat} {v : Nat → Int32} {f : Nat → Nat → Int32} {w : Int64} {g : Nat → Int64} (h0 : gsY_X11_isWord_1 NF (1818848101 : Int64) v f w g = 1) (h1 : ¬ ((v 32) = 0)) : gsY_X11_readLine_1_J5 NF v f w g = gsY_X11_readLine_1_J6 NF v f w g := by
  simp only [gsY_X11_readLine_1_J5, h0, if_neg h1, ite11, ite01, if_true, if_false]
theorem gsY_X11_readLine_1_q23 {NF : Nat} {v : Nat → Int32} {f : Nat → Nat → Int32} {w : Int64} {g : Nat → Int64} {r192 : Int32} {v194 : Nat → Int32} {f195 : Nat → Nat → Int32} {w196 : Int64} {g197 : Nat → Int64} (h0 : gsY_X11_isWord_1 NF (1818848101 : Int64) v f w g = 1) (h1 : ((v 32) = 0)) (h2 : gsY_X11_told_1 NF (1818848101 : Int64) 99 (upd v 32 1) f w g = (r192, v194, f195, w196, g197)) (h3 : ¬ ((v194 1) = 0)) (h4 : ¬ ((v194 1) = 0)) : gsY_X11_readLine_1_J5 NF v f w g = ((upd v194 21 r192), f195, w196, g197) := by
  simp only [gsY_X11_readLine_1_J5, h0, if_pos h1, h2, if_neg h3, if_neg h4, ite11, ite01, if_true, if_false]
theorem gsY_X11_readLine_1_q24 {NF : Nat} {v : Nat → Int32} {f : Nat → Nat → Int32} {w : Int64} {g : Nat → Int64} {r192 : Int32} {v194 : Nat → Int32} {f195 : Nat → Nat → Int32} {w196 : Int64} {g197 : Nat → Int64} {v206 : Nat → Int32} {f207 : Nat → Nat → Int32} {w208 : Int64} {g209 : Nat → Int64} (h0 : gsY_X11_isWord_1 NF (1818848101 : Int64) v f w g = 1) (h1 : ((v 32) = 0)) (h2 : gsY_X11_told_1 NF (1818848101 : Int64) 99 (upd v 32 1) f w g = (r192, v194, f195, w196, g197)) (h3 : ¬ ((v194 1) = 0)) (h4 : ((v194 1) = 0)) (h5 : gsY_X11_token_1 NF (upd v194 21 r192) f195 w196 g197 = (v206, f207, w208, g209)) : gsY_X11_readLine_1_J5 NF v f w g = (v206, f207, w208, g209) := by
  exact absurd h4 h3
theorem gsY_X11_readLine_1_q25 {NF : Nat} {v : Nat → Int32} {f : Nat → Nat → Int32} {w : Int64} {g : Nat → Int64} {r192 : Int32} {v194 : Nat → Int32} {f195 : Nat → Nat → Int32} {w196 : Int64} {g197 : Nat → Int64} (h0 : gsY_X11_isWord_1 NF (1818848101 : Int64) v f w g = 1) (h1 : ((v 32) = 0)) (h2 : gsY_X11_told_1 NF (1818848101 : Int64) 99 (upd v 32 1) f w g = (r192, v194, f195, w196, g197)) (h3 : ((v194 1) = 0)) (h4 : ((v194 5) = 59)) (h5 : ¬ ((v194 1) = 0)) : gsY_X11_readLine_1_J5 NF v f w g = ((upd v194 21 r192), f195, w196, g197) := by
  exact absurd h3 h5
theorem gsY_X11_readLine_1_q26 {NF : Nat} {v : Nat → Int32} {f : Nat → Nat → Int32} {w : Int64} {g : Nat → Int64} {r192 : Int32} {v194 : Nat → Int32} {f195 : Nat → Nat → Int32} {w196 : Int64} {g197 : Nat → Int64} {v218 : Nat → Int32} {f219 : Nat → Nat → Int32} {w220 : Int64} {g221 : Nat → Int64} (h0 : gsY_X11_isWord_1 NF (1818848101 : Int64) v f w g = 1) (h1 : ((v 32) = 0)) (h2 : gsY_X11_told_1 NF (1818848101 : Int64) 99 (upd v 32 1) f w g = (r192, v194, f195, w196, g197)) (h3 : ((v194 1) = 0)) (h4 : ((v194 5) = 59)) (h5 : ((v194 1) = 0)) (h6 : gsY_X11_token_1 NF (upd v194 21 r192) f195 w196 g197 = (v218, f219, w220, g221)) : gsY_X11_readLine_1_J5 NF v f w g = (v218, f219, w220, g221) := by
  simp only [gsY_X11_readLine_1_J5, h0, if_pos h1, h2, if_pos h3, if_pos h4, if_pos h5, h6, ite11, ite01, if_true, if_false]
theorem gsY_X11_readLine_1_q27 {NF : Nat} {v : Nat → Int32} {f : Nat → Nat → Int32} {w : Int64} {g : Nat → Int64} {r192 : Int32} {v194 : Nat → Int32} {f195 : Nat → Nat → Int32} {w196 : Int64} {g197 : Nat → Int64} {v228 : Nat → Int32} {f229 : Nat → Nat → Int32} {w230 : Int64} {g231 : Nat → Int64} (h0 : gsY_X11_isWord_1 NF (1818848101 : Int64) v f w g = 1) (h1 : ((v 32) = 0)) (h2 : gsY_X11_told_1 NF (1818848101 : Int64) 99 (upd v 32 1) f w g = (r192, v194, f195, w196, g197)) (h3 : ((v194 1) = 0)) (h4 : ¬ ((v194 5) = 59)) (h5 : gsY_X11_wrong_1 NF 2 (upd v194 21 r192) f195 w196 g197 = (v228, f229, w230, g231)) (h6 : ¬ ((v228 1) = 0)) : gsY_X11_readLine_1_J5 NF v f w g = (v228, f229, w230, g231) := by
  simp only [gsY_X11_readLine_1_J5, h0, if_pos h1, h2, if_pos h3, if_neg h4, h5, if_neg h6, ite11, ite01, if_true, if_false]
theorem gsY_X11_readLine_1_q28 {NF : Nat} {v : Nat → Int32} {f : Nat → Nat → Int32} {w : Int64} {g : Nat → Int64} {r192 : Int32} {v194 : Nat → Int32} {f195 : Nat → Nat → Int32} {w196 : Int64} {g197 : Nat → Int64} {v228 : Nat → Int32} {f229 : Nat → Nat → Int32} {w230 : Int64} {g231 : Nat → Int64} {v240 : Nat → Int32} {f241 : Nat → Nat → Int32} {w242 : Int64} {g243 : Nat → Int64} (h0 : gsY_X11_isWord_1 NF (1818848101 : Int64) v f w g = 1) (h1 : ((v 32) = 0)) (h2 : gsY_X11_told_1 NF (1818848101 : Int64) 99 (upd v 32 1) f w g = (r192, v194, f195, w196, g197)) (h3 : ((v194 1) = 0)) (h4 : ¬ ((v194 5) = 59)) (h5 : gsY_X11_wrong_1 NF 2 (upd v194 21 r192) f195 w196 g197 = (v228, f229, w230, g231)) (h6 : ((v228 1) = 0)) (h7 : gsY_X11_token_1 NF v228 f229 w230 g231 = (v240, f241, w242, g243)) : gsY_X11_readLine_1_J5 NF v f w g = (v240, f241, w242, g243) := by
  simp only [gsY_X11_readLine_1_J5, h0, if_pos h1, h2, if_pos h3, if_neg h4, h5, if_pos h6, h7, ite11, ite01, if_true, if_false]
theorem gsY_X11_readLine_1_q29 {NF : Nat} {v : Nat → Int32} {f : Nat → Nat → Int32} {w : Int64} {g : Nat → Int64} (h0 : gsY_X11_isWord_1 NF (1818848101 : Int64) v f w g = 0) : gsY_X11_readLine_1_J5 NF v f w g = gsY_X11_readLine_1_J6 NF v f w g := by
  simp only [gsY_X11_readLine_1_J5, h0, ite11, ite01, if_true, if_false]
theorem gsY_X11_readLine_1_q14 {NF : Nat} {v : Nat → Int32} {f : Nat → Nat → Int32} {w : Int64} {g : Nat → Int64} (h0 : gsY_X11_isWord_1 NF (1918986606 : Int64) v f w g = 1) (h1 : ¬ ((v 33) = 0)) : gsY_X11_readLine_1_J6 NF v f w g = gsY_X11_readLine_1_J7 NF v f w g := by
  simp only [gsY_X11_readLine_1_J6, h0, if_neg h1, ite11, ite01, if_true, if_false]
theorem gsY_X11_readLine_1_q15 {NF : Nat} {v : Nat → Int32} {f : Nat → Nat → Int32} {w : Int64} {g : Nat → Int64} {r131 : Int32} {v133 : Nat → Int32} {f134 : Nat → Nat → Int32} {w135 : Int64} {g136 : Nat → Int64} (h0 : gsY_X11_isWord_1 NF (1918986606 : Int64) v f w g = 1) (h1 : ((v 33) = 0)) (h2 : gsY_X11_told_1 NF (1918986606 : Int64) 100 (upd v 33 1) f w g = (r131, v133, f134, w135, g136)) (h3 : ¬ ((v133 1) = 0)) (h4 : ¬ ((v133 1) = 0)) : gsY_X11_readLine_1_J6 NF v f w g = ((upd v133 22 r131), f134, w135, g136) := by
  simp only [gsY_X11_readLine_1_J6, h0, if_pos h1, h2, if_neg h3, if_neg h4, ite11, ite01, if_true, if_false]
theorem gsY_X11_readLine_1_q16 {NF : Nat} {v : Nat → Int32} {f : Nat → Nat → Int32} {w : Int64} {g : Nat → Int64} {r131 : Int32} {v133 : Nat → Int32} {f134 : Nat → Nat → Int32} {w135 : Int64} {g136 : Nat → Int64} {v145 : Nat → Int32} {f146 : Nat → Nat → Int32} {w147 : Int64} {g148 : Nat → Int64} (h0 : gsY_X11_isWord_1 NF (1918986606 : Int64) v f w g = 1) (h1 : ((v 33) = 0)) (h2 : gsY_X11_told_1 NF (1918986606 : Int64) 100 (upd v 33 1) f w g = (r131, v133, f134, w135, g136)) (h3 : ¬ ((v133 1) = 0)) (h4 : ((v133 1) = 0)) (h5 : gsY_X11_token_1 NF (upd v133 22 r131) f134 w135 g136 = (v145, f146, w147, g148)) : gsY_X11_readLine_1_J6 NF v f w g = (v145, f146, w147, g148) := by
  exact absurd h4 h3
theorem gsY_X11_readLine_1_q17 {NF : Nat} {v : Nat → Int32} {f : Nat → Nat → Int32} {w : Int64} {g : Nat → Int64} {r131 : Int32} {v133 : Nat → Int32} {f134 : Nat → Nat → Int32} {w135 : Int64} {g136 : Nat → Int64} (h0 : gsY_X11_isWord_1 NF (1918986606 : Int64) v f w g = 1) (h1 : ((v 33) = 0)) (h2 : gsY_X11_told_1 NF (1918986606 : Int64) 100 (upd v 33 1) f w g = (r131, v133, f134, w135, g136)) (h3 : ((v133 1) = 0)) (h4 : ((v133 5) = 59)) (h5 : ¬ ((v133 1) = 0)) : gsY_X11_readLine_1_J6 NF v f w g = ((upd v133 22 r131), f134, w135, g136) := by
  exact absurd h3 h5
theorem gsY_X11_readLine_1_q18 {NF : Nat} {v : Nat → Int32} {f : Nat → Nat → Int32} {w : Int64} {g : Nat → Int64} {r131 : Int32} {v133 : Nat → Int32} {f134 : Nat → Nat → Int32} {w135 : Int64} {g136 : Nat → Int64} {v157 : Nat → Int32} {f158 : Nat → Nat → Int32} {w159 : Int64} {g160 : Nat → Int64} (h0 : gsY_X11_isWord_1 NF (1918986606 : Int64) v f w g = 1) (h1 : ((v 33) = 0)) (h2 : gsY_X11_told_1 NF (1918986606 : Int64) 100 (upd v 33 1) f w g = (r131, v133, f134, w135, g136)) (h3 : ((v133 1) = 0)) (h4 : ((v133 5) = 59)) (h5 : ((v133 1) = 0)) (h6 : gsY_X11_token_1 NF (upd v133 22 r131) f134 w135 g136 = (v157, f158, w159, g160)) : gsY_X11_readLine_1_J6 NF v f w g = (v157, f158, w159, g160) := by
  simp only [gsY_X11_readLine_1_J6, h0, if_pos h1, h2, if_pos h3, if_pos h4, if_pos h5, h6, ite11, ite01, if_true, if_false]
theorem gsY_X11_readLine_1_q19 {NF : Nat} {v : Nat → Int32} {f : Nat → Nat → Int32} {w : Int64} {g : Nat → Int64} {r131 : Int32} {v133 : Nat → Int32} {f134 : Nat → Nat → Int32} {w135 : Int64} {g136 : Nat → Int64} {v167 : Nat → Int32} {f168 : Nat → Nat → Int32} {w169 : Int64} {g170 : Nat → Int64} (h0 : gsY_X11_isWord_1 NF (1918986606 : Int64) v f w g = 1) (h1 : ((v 33) = 0)) (h2 : gsY_X11_told_1 NF (1918986606 : Int64) 100 (upd v 33 1) f w g = (r131, v133, f134, w135, g136)) (h3 : ((v133 1) = 0)) (h4 : ¬ ((v133 5) = 59)) (h5 : gsY_X11_wrong_1 NF 2 (upd v133 22 r131) f134 w135 g136 = (v167, f168, w169, g170)) (h6 : ¬ ((v167 1) = 0)) : gsY_X11_readLine_1_J6 NF v f w g = (v167, f168, w169, g170) := by
  simp only [gsY_X11_readLine_1_J6, h0, if_pos h1, h2, if_pos h3, if_neg h4, h5, if_neg h6, ite11, ite01, if_true, if_false]
theorem gsY_X11_readLine_1_q20 {NF : Nat} {v : Nat → Int32} {f : Nat → Nat → Int32} {w : Int64} {g : Nat → Int64} {r131 : Int32} {v133 : Nat → Int32} {f134 : Nat → Nat → Int32} {w135 : Int64} {g136 : Nat → Int64} {v167 : Nat → Int32} {f168 : Nat → Nat → Int32} {w169 : Int64} {g170 : Nat → Int64} {v179 : Nat → Int32} {f180 : Nat → Nat → Int32} {w181 : Int64} {g182 : Nat → Int64} (h0 : gsY_X11_isWord_1 NF (1918986606 : Int64) v f w g = 1) (h1 : ((v 33) = 0)) (h2 : gsY_X11_told_1 NF (1918986606 : Int64) 100 (upd v 33 1) f w g = (r131, v133, f134, w135, g136)) (h3 : ((v133 1) = 0)) (h4 : ¬ ((v133 5) = 59)) (h5 : gsY_X11_wrong_1 NF 2 (upd v133 22 r131) f134 w135 g136 = (v167, f168, w169, g170)) (h6 : ((v167 1) = 0)) (h7 : gsY_X11_token_1 NF v167 f168 w169 g170 = (v179, f180, w181, g182)) : gsY_X11_readLine_1_J6 NF v f w g = (v179, f180, w181, g182) := by
  simp only [gsY_X11_readLine_1_J6, h0, if_pos h1, h2, if_pos h3, if_neg h4, h5, if_pos h6, h7, ite11, ite01, if_true, if_false]
theorem gsY_X11_readLine_1_q21 {NF : Nat} {v : Nat → Int32} {f : Nat → Nat → Int32} {w : Int64} {g : Nat → Int64} (h0 : gsY_X11_isWord_1 NF (1918986606 : Int64) v f w g = 0) : gsY_X11_readLine_1_J6 NF v f w g = gsY_X11_readLine_1_J7 NF v f w g := by
  simp only [gsY_X11_readLine_1_J6, h0, ite11, ite01, if_true, if_false]
theorem gsY_X11_readLine_1_q6 {NF : Nat} {v : Nat → Int32} {f : Nat → Nat → Int32} {w : Int64} {g : Nat → Int64} (h0 : gsY_X11_isWord_1 NF (1685217655 : Int64) v f w g = 1) (h1 : ¬ ((v 34) = 0)) : gsY_X11_readLine_1_J7 NF v f w g = gsY_X11_readLine_1_J8 NF v f w g := by
  simp only [gsY_X11_readLine_1_J7, h0, if_neg h1, ite11, ite01, if_true, if_false]
theorem gsY_X11_readLine_1_q7 {NF : Nat} {v : Nat → Int32} {f : Nat → Nat → Int32} {w : Int64} {g : Nat → Int64} {r70 : Int32} {v72 : Nat → Int32} {f73 : Nat → Nat → Int32} {w74 : Int64} {g75 : Nat → Int64} (h0 : gsY_X11_isWord_1 NF (1685217655 : Int64) v f w g = 1) (h1 : ((v 34) = 0)) (h2 : gsY_X11_told_1 NF (1685217655 : Int64) 999 (upd v 34 1) f w g = (r70, v72, f73, w74, g75)) (h3 : ¬ ((v72 1) = 0)) (h4 : ¬ ((v72 1) = 0)) : gsY_X11_readLine_1_J7 NF v f w g = ((upd v72 23 r70), f73, w74, g75) := by
  simp only [gsY_X11_readLine_1_J7, h0, if_pos h1, h2, if_neg h3, if_neg h4, ite11, ite01, if_true, if_false]
theorem gsY_X11_readLine_1_q8 {NF : Nat} {v : Nat → Int32} {f : Nat → Nat → Int32} {w : Int64} {g : Nat → Int64} {r70 : Int32} {v72 : Nat → Int32} {f73 : Nat → Nat → Int32} {w74 : Int64} {g75 : Nat → Int64} {v84 : Nat → Int32} {f85 : Nat → Nat → Int32} {w86 : Int64} {g87 : Nat → Int64} (h0 : gsY_X11_isWord_1 NF (1685217655 : Int64) v f w g = 1) (h1 : ((v 34) = 0)) (h2 : gsY_X11_told_1 NF (1685217655 : Int64) 999 (upd v 34 1) f w g = (r70, v72, f73, w74, g75)) (h3 : ¬ ((v72 1) = 0)) (h4 : ((v72 1) = 0)) (h5 : gsY_X11_token_1 NF (upd v72 23 r70) f73 w74 g75 = (v84, f85, w86, g87)) : gsY_X11_readLine_1_J7 NF v f w g = (v84, f85, w86, g87) := by
  exact absurd h4 h3
theorem gsY_X11_readLine_1_q9 {NF : Nat} {v : Nat → Int32} {f : Nat → Nat → Int32} {w : Int64} {g : Nat → Int64} {r70 : Int32} {v72 : Nat → Int32} {f73 : Nat → Nat → Int32} {w74 : Int64} {g75 : Nat → Int64} (h0 : gsY_X11_isWord_1 NF (1685217655 : Int64) v f w g = 1) (h1 : ((v 34) = 0)) (h2 : gsY_X11_told_1 NF (1685217655 : Int64) 999 (upd v 34 1) f w g = (r70, v72, f73, w74, g75)) (h3 : ((v72 1) = 0)) (h4 : ((v72 5) = 59)) (h5 : ¬ ((v72 1) = 0)) : gsY_X11_readLine_1_J7 NF v f w g = ((upd v72 23 r70), f73, w74, g75) := by
  exact absurd h3 h5
theorem gsY_X11_readLine_1_q10 {NF : Nat} {v : Nat → Int32} {f : Nat → Nat → Int32} {w : Int64} {g : Nat → Int64} {r70 : Int32} {v72 : Nat → Int32} {f73 : Nat → Nat → Int32} {w74 : Int64} {g75 : Nat → Int64} {v96 : Nat → Int32} {f97 : Nat → Nat → Int32} {w98 : Int64} {g99 : Nat → Int64} (h0 : gsY_X11_isWord_1 NF (1685217655 : Int64) v f w g = 1) (h1 : ((v 34) = 0)) (h2 : gsY_X11_told_1 NF (1685217655 : Int64) 999 (upd v 34 1) f w g = (r70, v72, f73, w74, g75)) (h3 : ((v72 1) = 0)) (h4 : ((v72 5) = 59)) (h5 : ((v72 1) = 0)) (h6 : gsY_X11_token_1 NF (upd v72 23 r70) f73 w74 g75 = (v96, f97, w98, g99)) : gsY_X11_readLine_1_J7 NF v f w g = (v96, f97, w98, g99) := by
  simp only [gsY_X11_readLine_1_J7, h0, if_pos h1, h2, if_pos h3, if_pos h4, if_pos h5, h6, ite11, ite01, if_true, if_false]
theorem gsY_X11_readLine_1_q11 {NF : Nat} {v : Nat → Int32} {f : Nat → Nat → Int32} {w : Int64} {g : Nat → Int64} {r70 : Int32} {v72 : Nat → Int32} {f73 : Nat → Nat → Int32} {w74 : Int64} {g75 : Nat → Int64} {v106 : Nat → Int32} {f107 : Nat → Nat → Int32} {w108 : Int64} {g109 : Nat → Int64} (h0 : gsY_X11_isWord_1 NF (1685217655 : Int64) v f w g = 1) (h1 : ((v 34) = 0)) (h2 : gsY_X11_told_1 NF (1685217655 : Int64) 999 (upd v 34 1) f w g = (r70, v72, f73, w74, g75)) (h3 : ((v72 1) = 0)) (h4 : ¬ ((v72 5) = 59)) (h5 : gsY_X11_wrong_1 NF 2 (upd v72 23 r70) f73 w74 g75 = (v106, f107, w108, g109)) (h6 : ¬ ((v106 1) = 0)) : gsY_X11_readLine_1_J7 NF v f w g = (v106, f107, w108, g109) := by
  simp only [gsY_X11_readLine_1_J7, h0, if_pos h1, h2, if_pos h3, if_neg h4, h5, if_neg h6, ite11, ite01, if_true, if_false]
theorem gsY_X11_readLine_1_q12 {NF : Nat} {v : Nat → Int32} {f : Nat → Nat → Int32} {w : Int64} {g : Nat → Int64} {r70 : Int32} {v72 : Nat → Int32} {f73 : Nat → Nat → Int32} {w74 : Int64} {g75 : Nat → Int64} {v106 : Nat → Int32} {f107 : Nat → Nat → Int32} {w108 : Int64} {g109 : Nat → Int64} {v118 : Nat → Int32} {f119 : Nat → Nat → Int32} {w120 : Int64} {g121 : Nat → Int64} (h0 : gsY_X11_isWord_1 NF (1685217655 : Int64) v f w g = 1) (h1 : ((v 34) = 0)) (h2 : gsY_X11_told_1 NF (1685217655 : Int64) 999 (upd v 34 1) f w g = (r70, v72, f73, w74, g75)) (h3 : ((v72 1) = 0)) (h4 : ¬ ((v72 5) = 59)) (h5 : gsY_X11_wrong_1 NF 2 (upd v72 23 r70) f73 w74 g75 = (v106, f107, w108, g109)) (h6 : ((v106 1) = 0)) (h7 : gsY_X11_token_1 NF v106 f107 w108 g109 = (v118, f119, w120, g121)) : gsY_X11_readLine_1_J7 NF v f w g = (v118, f119, w120, g121) := by
  simp only [gsY_X11_readLine_1_J7, h0, if_pos h1, h2, if_pos h3, if_neg h4, h5, if_pos h6, h7, ite11, ite01, if_true, if_false]
theorem gsY_X11_readLine_1_q13 {NF : Nat} {v : Nat → Int32} {f : Nat → Nat → Int32} {w : Int64} {g : Nat → Int64} (h0 : gsY_X11_isWord_1 NF (1685217655 : Int64) v f w g = 0) : gsY_X11_readLine_1_J7 NF v f w g = gsY_X11_readLine_1_J8 NF v f w g := by
  simp only [gsY_X11_readLine_1_J7, h0, ite11, ite01, if_true, if_false]
theorem gsY_X11_readLine_1_q0 {NF : Nat} {v : Nat → Int32} {f : Nat → Nat → Int32} {w : Int64} {g : Nat → Int64} {v10 : Nat → Int32} {f11 : Nat → Nat → Int32} {w12 : Int64} {g13 : Nat → Int64} (h0 : gsY_X11_wrong_1 NF 2 v f w g = (v10, f11, w12, g13)) (h1 : ¬ ((v10 1) = 0)) (h2 : ¬ ((v10 1) = 0)) : gsY_X11_readLine_1_J8 NF v f w g = (v10, f11, w12, g13) := by
  simp only [gsY_X11_readLine_1_J8, h0, if_neg h1, if_neg h2]
theorem gsY_X11_readLine_1_q1 {NF : Nat} {v : Nat → Int32} {f : Nat → Nat → Int32} {w : Int64} {g : Nat → Int64} {v10 : Nat → Int32} {f11 : Nat → Nat → Int32} {w12 : Int64} {g13 : Nat → Int64} {v23 : Nat → Int32} {f24 : Nat → Nat → Int32} {w25 : Int64} {g26 : Nat → Int64} (h0 : gsY_X11_wrong_1 NF 2 v f w g = (v10, f11, w12, g13)) (h1 : ¬ ((v10 1) = 0)) (h2 : ((v10 1) = 0)) (h3 : gsY_X11_token_1 NF v10 f11 w12 g13 = (v23, f24, w25, g26)) : gsY_X11_readLine_1_J8 NF v f w g = (v23, f24, w25, g26) := by
  exact absurd h2 h1
theorem gsY_X11_readLine_1_q2 {NF : Nat} {v : Nat → Int32} {f : Nat → Nat → Int32} {w : Int64} {g : Nat → Int64} {v10 : Nat → Int32} {f11 : Nat → Nat → Int32} {w12 : Int64} {g13 : Nat → Int64} (h0 : gsY_X11_wrong_1 NF 2 v f w g = (v10, f11, w12, g13)) (h1 : ((v10 1) = 0)) (h2 : ((v 5) = 59)) (h3 : ¬ ((v10 1) = 0)) : gsY_X11_readLine_1_J8 NF v f w g = (v10, f11, w12, g13) := by
  exact absurd h1 h3
theorem gsY_X11_readLine_1_q3 {NF : Nat} {v : Nat → Int32} {f : Nat → Nat → Int32} {w : Int64} {g : Nat → Int64} {v10 : Nat → Int32} {f11 : Nat → Nat → Int32} {w12 : Int64} {g13 : Nat → Int64} {v35 : Nat → Int32} {f36 : Nat → Nat → Int32} {w37 : Int64} {g38 : Nat → Int64} (h0 : gsY_X11_wrong_1 NF 2 v f w g = (v10, f11, w12, g13)) (h1 : ((v10 1) = 0)) (h2 : ((v 5) = 59)) (h3 : ((v10 1) = 0)) (h4 : gsY_X11_token_1 NF v10 f11 w12 g13 = (v35, f36, w37, g38)) : gsY_X11_readLine_1_J8 NF v f w g = (v35, f36, w37, g38) := by
  simp only [gsY_X11_readLine_1_J8, h0, if_pos h1, if_pos h2, if_pos h3, h4]
theorem gsY_X11_readLine_1_q4 {NF : Nat} {v : Nat → Int32} {f : Nat → Nat → Int32} {w : Int64} {g : Nat → Int64} {v10 : Nat → Int32} {f11 : Nat → Nat → Int32} {w12 : Int64} {g13 : Nat → Int64} {v45 : Nat → Int32} {f46 : Nat → Nat → Int32} {w47 : Int64} {g48 : Nat → Int64} (h0 : gsY_X11_wrong_1 NF 2 v f w g = (v10, f11, w12, g13)) (h1 : ((v10 1) = 0)) (h2 : ¬ ((v 5) = 59)) (h3 : gsY_X11_wrong_1 NF 2 v10 f11 w12 g13 = (v45, f46, w47, g48)) (h4 : ¬ ((v45 1) = 0)) : gsY_X11_readLine_1_J8 NF v f w g = (v45, f46, w47, g48) := by
  simp only [gsY_X11_readLine_1_J8, h0, if_pos h1, if_neg h2, h3, if_neg h4]
theorem gsY_X11_readLine_1_q5 {NF : Nat} {v : Nat → Int32} {f : Nat → Nat → Int32} {w : Int64} {g : Nat → Int64} {v10 : Nat → Int32} {f11 : Nat → Nat → Int32} {w12 : Int64} {g13 : Nat → Int64} {v45 : Nat → Int32} {f46 : Nat → Nat → Int32} {w47 : Int64} {g48 : Nat → Int64} {v57 : Nat → Int32} {f58 : Nat → Nat → Int32} {w59 : Int64} {g60 : Nat → Int64} (h0 : gsY_X11_wrong_1 NF 2 v f w g = (v10, f11, w12, g13)) (h1 : ((v10 1) = 0)) (h2 : ¬ ((v 5) = 59)) (h3 : gsY_X11_wrong_1 NF 2 v10 f11 w12 g13 = (v45, f46, w47, g48)) (h4 : ((v45 1) = 0)) (h5 : gsY_X11_token_1 NF v45 f46 w47 g48 = (v57, f58, w59, g60)) : gsY_X11_readLine_1_J8 NF v f w g = (v57, f58, w59, g60) := by
  simp only [gsY_X11_readLine_1_J8, h0, if_pos h1, if_neg h2, h3, if_pos h4, h5]
def gsY_X11_readAll_1_L11 (NF : Nat) : Nat → (Nat → Int32) → (Nat → Nat → Int32) → (Int64) → (Nat → Int64) → (Nat → Int32) × (Nat → Nat → Int32) × (Int64) × (Nat → Int64)
  | 0, _, _, _, _ => ((fun _ => 0), (fun _ _ => 0), 0, (fun _ => 0))
  | n11 + 1, v11, f11, w11, g11 =>
    if (v11 1) = 0 then
      if (v11 5) = 0 then
        (v11, f11, w11, g11)
      else
        match gsY_X11_readLine_1 NF v11 f11 w11 g11 with
        | (v15, f16, w17, g18) =>
          gsY_X11_readAll_1_L11 NF n11 v15 f16 w17 g18
    else
      (v11, f11, w11, g11)
def gsY_X11_readAll_1 (NF : Nat) (v : Nat → Int32) (f : Nat → Nat → Int32) (w : Int64) (g : Nat → Int64) : (Nat → Int32) × (Nat → Nat → Int32) × (Int64) × (Nat → Int64) :=
  match gsY_X11_token_1 NF (upd (upd (upd (upd (upd (upd (upd (upd (upd (upd (upd (upd (upd (upd (upd (upd (upd (upd (upd v 4 (v 0)) 0 0) 3 0) 1 0) 2 (-1)) 17 0) 18 0) 19 10) 20 150) 21 2) 22 0) 23 0) 30 0) 31 0) 32 0) 33 0) 34 0) 15 0) 11 0) f w g with
  | (v2, f3, w4, g5) =>
    gsY_X11_readAll_1_L11 NF (4294967296 + NF) v2 f3 w4 g5
theorem gsY_X11_readAll_1_q3 {NF : Nat} {v : Nat → Int32} {f : Nat → Nat → Int32} {w : Int64} {g : Nat → Int64} {v2 : Nat → Int32} {f3 : Nat → Nat → Int32} {w4 : Int64} {g5 : Nat → Int64} (h0 : gsY_X11_token_1 NF (upd (upd (upd (upd (upd (upd (upd (upd (upd (upd (upd (upd (upd (upd (upd (upd (upd (upd (upd v 4 (v 0)) 0 0) 3 0) 1 0) 2 (-1)) 17 0) 18 0) 19 10) 20 150) 21 2) 22 0) 23 0) 30 0) 31 0) 32 0) 33 0) 34 0) 15 0) 11 0) f w g = (v2, f3, w4, g5)) : gsY_X11_readAll_1 NF v f w g = gsY_X11_readAll_1_L11 NF (4294967296 + NF) v2 f3 w4 g5 := by
  simp only [gsY_X11_readAll_1, h0]
theorem gsY_X11_readAll_1_q0 {NF : Nat} {n11 : Nat} {v11 : Nat → Int32} {f11 : Nat → Nat → Int32} {w11 : Int64} {g11 : Nat → Int64} (h0 : ¬ ((v11 1) = 0)) : gsY_X11_readAll_1_L11 NF (n11 + 1) v11 f11 w11 g11 = (v11, f11, w11, g11) := by
  simp only [gsY_X11_readAll_1_L11, if_neg h0]
theorem gsY_X11_readAll_1_q1 {NF : Nat} {n11 : Nat} {v11 : Nat → Int32} {f11 : Nat → Nat → Int32} {w11 : Int64} {g11 : Nat → Int64} (h0 : ((v11 1) = 0)) (h1 : ((v11 5) = 0)) : gsY_X11_readAll_1_L11 NF (n11 + 1) v11 f11 w11 g11 = (v11, f11, w11, g11) := by
  simp only [gsY_X11_readAll_1_L11, if_pos h0, if_pos h1]
theorem gsY_X11_readAll_1_q2 {NF : Nat} {n11 : Nat} {v11 : Nat → Int32} {f11 : Nat → Nat → Int32} {w11 : Int64} {g11 : Nat → Int64} {v15 : Nat → Int32} {f16 : Nat → Nat → Int32} {w17 : Int64} {g18 : Nat → Int64} (h0 : ((v11 1) = 0)) (h1 : ¬ ((v11 5) = 0)) (h2 : gsY_X11_readLine_1 NF v11 f11 w11 g11 = (v15, f16, w17, g18)) : gsY_X11_readAll_1_L11 NF (n11 + 1) v11 f11 w11 g11 = gsY_X11_readAll_1_L11 NF n11 v15 f16 w17 g18 := by
  simp only [gsY_X11_readAll_1_L11, if_pos h0, if_neg h1, h2]
def gsY_X11_begin_1_L7 (NF : Nat) (v : Nat → Int32) : Nat → (Int32) → (Nat → Int32) → (Nat → Nat → Int32) → (Int64) → (Nat → Int64) → (Nat → Int32) × (Nat → Nat → Int32) × (Int64) × (Nat → Int64)
  | 0, _, _, _, _, _ => ((fun _ => 0), (fun _ _ => 0), 0, (fun _ => 0))
  | n7 + 1, l1_7, v7, f7, w7, g7 =>
    if (v 25) ≤ l1_7 then
      (v7, f7, w7, g7)
    else
      let t13 : Int32 := 12 + l1_7
      let t14 : Int32 := f7 19 (l1_7).toNatClampNeg
      let f15 : Nat → Nat → Int32 := upd2 f7 24 (upd (f7 24) t13.toNatClampNeg t14)
      let t16 : Int32 := 18 + l1_7
      let t17 : Int32 := f15 20 (l1_7).toNatClampNeg
      let f18 : Nat → Nat → Int32 := upd2 f15 24 (upd (f15 24) t16.toNatClampNeg t17)
      let t19 : Int32 := 24 + l1_7
      let t20 : Int32 := f18 21 (l1_7).toNatClampNeg
      let f21 : Nat → Nat → Int32 := upd2 f18 24 (upd (f18 24) t19.toNatClampNeg t20)
      let t22 : Int32 := 30 + l1_7
      let t23 : Int32 := f21 22 (l1_7).toNatClampNeg
      let f24 : Nat → Nat → Int32 := upd2 f21 24 (upd (f21 24) t22.toNatClampNeg t23)
      let t25 : Int32 := l1_7 + 1
      gsY_X11_begin_1_L7 NF v n7 t25 v7 f24 w7 g7
def gsY_X11_begin_1_L3 (NF : Nat) (v : Nat → Int32) : Nat → (Int32) → (Nat → Int32) → (Nat → Nat → Int32) → (Int64) → (Nat → Int64) → (Nat → Int32) × (Nat → Nat → Int32) × (Int64) × (Nat → Int64)
  | 0, _, _, _, _, _ => ((fun _ => 0), (fun _ _ => 0), 0, (fun _ => 0))
  | n3 + 1, l1_3, v3, f3, w3, g3 =>
    if (v 24) ≤ l1_3 then
      gsY_X11_begin_1_L7 NF v (4294967296 + NF) 0 v3 f3 w3 g3
    else
      let t29 : Int32 := f3 17 (l1_3).toNatClampNeg
      let f30 : Nat → Nat → Int32 := upd2 f3 24 (upd (f3 24) l1_3.toNatClampNeg t29)
      let t31 : Int32 := 6 + l1_3
      let f32 : Nat → Nat → Int32 := upd2 f30 24 (upd (f30 24) t31.toNatClampNeg (-1))
      let t33 : Int32 := l1_3 + 1
      gsY_X11_begin_1_L3 NF v n3 t33 v3 f32 w3 g3
def gsY_X11_begin_1_L1 (NF : Nat) (v : Nat → Int32) : Nat → (Int32) → (Nat → Int32) → (Nat → Nat → Int32) → (Int64) → (Nat → Int64) → (Nat → Int32) × (Nat → Nat → Int32) × (Int64) × (Nat → Int64)
  | 0, _, _, _, _, _ => ((fun _ => 0), (fun _ _ => 0), 0, (fun _ => 0))
  | n1 + 1, l1_1, v1, f1, w1, g1 =>
    if 39 ≤ l1_1 then
      gsY_X11_begin_1_L3 NF v (4294967296 + NF) 0 v1 f1 w1 g1
    else
      let f35 : Nat → Nat → Int32 := upd2 f1 24 (upd (f1 24) l1_1.toNatClampNeg 0)
      let t36 : Int32 := l1_1 + 1
      gsY_X11_begin_1_L1 NF v n1 t36 v1 f35 w1 g1
def gsY_X11_begin_1 (NF : Nat) (v : Nat → Int32) (f : Nat → Nat → Int32) (w : Int64) (g : Nat → Int64) : (Nat → Int32) × (Nat → Nat → Int32) × (Int64) × (Nat → Int64) :=
  gsY_X11_begin_1_L1 NF v (4294967296 + NF) 0 v f w g
theorem gsY_X11_begin_1_q6 {NF : Nat} {v : Nat → Int32} {f : Nat → Nat → Int32} {w : Int64} {g : Nat → Int64}  : gsY_X11_begin_1 NF v f w g = gsY_X11_begin_1_L1 NF v (4294967296 + NF) 0 v f w g := by
  simp only [gsY_X11_begin_1]
theorem gsY_X11_begin_1_q4 {NF : Nat} {v : Nat → Int32} {n1 : Nat} {l1_1 : Int32} {v1 : Nat → Int32} {f1 : Nat → Nat → Int32} {w1 : Int64} {g1 : Nat → Int64} (h0 : (39 ≤ l1_1)) : gsY_X11_begin_1_L1 NF v (n1 + 1) l1_1 v1 f1 w1 g1 = gsY_X11_begin_1_L3 NF v (4294967296 + NF) 0 v1 f1 w1 g1 := by
  simp only [gsY_X11_begin_1_L1, if_pos h0]
theorem gsY_X11_begin_1_q5 {NF : Nat} {v : Nat → Int32} {n1 : Nat} {l1_1 : Int32} {v1 : Nat → Int32} {f1 : Nat → Nat → Int32} {w1 : Int64} {g1 : Nat → Int64} {f35 : Nat → Nat → Int32} {t36 : Int32} (h0 : ¬ (39 ≤ l1_1)) (h1 : f35 = upd2 f1 24 (upd (f1 24) l1_1.toNatClampNeg 0)) (h2 : t36 = l1_1 + 1) : gsY_X11_begin_1_L1 NF v (n1 + 1) l1_1 v1 f1 w1 g1 = gsY_X11_begin_1_L1 NF v n1 t36 v1 f35 w1 g1 := by
  subst h1 h2
  simp only [gsY_X11_begin_1_L1, if_neg h0]
theorem gsY_X11_begin_1_q2 {NF : Nat} {v : Nat → Int32} {n3 : Nat} {l1_3 : Int32} {v3 : Nat → Int32} {f3 : Nat → Nat → Int32} {w3 : Int64} {g3 : Nat → Int64} (h0 : ((v 24) ≤ l1_3)) : gsY_X11_begin_1_L3 NF v (n3 + 1) l1_3 v3 f3 w3 g3 = gsY_X11_begin_1_L7 NF v (4294967296 + NF) 0 v3 f3 w3 g3 := by
  simp only [gsY_X11_begin_1_L3, if_pos h0]
theorem gsY_X11_begin_1_q3 {NF : Nat} {v : Nat → Int32} {n3 : Nat} {l1_3 : Int32} {v3 : Nat → Int32} {f3 : Nat → Nat → Int32} {w3 : Int64} {g3 : Nat → Int64} {t29 : Int32} {f30 : Nat → Nat → Int32} {t31 : Int32} {f32 : Nat → Nat → Int32} {t33 : Int32} (h0 : ¬ ((v 24) ≤ l1_3)) (h1 : t29 = f3 17 (l1_3).toNatClampNeg) (h2 : f30 = upd2 f3 24 (upd (f3 24) l1_3.toNatClampNeg t29)) (h3 : t31 = 6 + l1_3) (h4 : f32 = upd2 f30 24 (upd (f30 24) t31.toNatClampNeg (-1))) (h5 : t33 = l1_3 + 1) : gsY_X11_begin_1_L3 NF v (n3 + 1) l1_3 v3 f3 w3 g3 = gsY_X11_begin_1_L3 NF v n3 t33 v3 f32 w3 g3 := by
  subst h1 h2 h3 h4 h5
  simp only [gsY_X11_begin_1_L3, if_neg h0]
theorem gsY_X11_begin_1_q0 {NF : Nat} {v : Nat → Int32} {n7 : Nat} {l1_7 : Int32} {v7 : Nat → Int32} {f7 : Nat → Nat → Int32} {w7 : Int64} {g7 : Nat → Int64} (h0 : ((v 25) ≤ l1_7)) : gsY_X11_begin_1_L7 NF v (n7 + 1) l1_7 v7 f7 w7 g7 = (v7, f7, w7, g7) := by
  simp only [gsY_X11_begin_1_L7, if_pos h0]
theorem gsY_X11_begin_1_q1 {NF : Nat} {v : Nat → Int32} {n7 : Nat} {l1_7 : Int32} {v7 : Nat → Int32} {f7 : Nat → Nat → Int32} {w7 : Int64} {g7 : Nat → Int64} {t13 : Int32} {t14 : Int32} {f15 : Nat → Nat → Int32} {t16 : Int32} {t17 : Int32} {f18 : Nat → Nat → Int32} {t19 : Int32} {t20 : Int32} {f21 : Nat → Nat → Int32} {t22 : Int32} {t23 : Int32} {f24 : Nat → Nat → Int32} {t25 : Int32} (h0 : ¬ ((v 25) ≤ l1_7)) (h1 : t13 = 12 + l1_7) (h2 : t14 = f7 19 (l1_7).toNatClampNeg) (h3 : f15 = upd2 f7 24 (upd (f7 24) t13.toNatClampNeg t14)) (h4 : t16 = 18 + l1_7) (h5 : t17 = f15 20 (l1_7).toNatClampNeg) (h6 : f18 = upd2 f15 24 (upd (f15 24) t16.toNatClampNeg t17)) (h7 : t19 = 24 + l1_7) (h8 : t20 = f18 21 (l1_7).toNatClampNeg) (h9 : f21 = upd2 f18 24 (upd (f18 24) t19.toNatClampNeg t20)) (h10 : t22 = 30 + l1_7) (h11 : t23 = f21 22 (l1_7).toNatClampNeg) (h12 : f24 = upd2 f21 24 (upd (f21 24) t22.toNatClampNeg t23)) (h13 : t25 = l1_7 + 1) : gsY_X11_begin_1_L7 NF v (n7 + 1) l1_7 v7 f7 w7 g7 = gsY_X11_begin_1_L7 NF v n7 t25 v7 f24 w7 g7 := by
  subst h1 h2 h3 h4 h5 h6 h7 h8 h9 h10 h11 h12 h13
  simp only [gsY_X11_begin_1_L7, if_neg h0]
def gsY_X11_keepAir_1_L1 (NF : Nat) : Nat → (Int32) → (Nat → Int32) → (Nat → Nat → Int32) → (Int64) → (Nat → Int64) → (Nat → Int32) × (Nat → Nat → Int32) × (Int64) × (Nat → Int64)
  | 0, _, _, _, _, _ => ((fun _ => 0), (fun _ _ => 0), 0, (fun _ => 0))
  | n1 + 1, l1_1, v1, f1, w1, g1 =>
    if 39 ≤ l1_1 then
      (v1, f1, w1, g1)
    else
      let t3 : Int32 := f1 24 (l1_1).toNatClampNeg
      let f4 : Nat → Nat → Int32 := upd2 f1 23 (upd (f1 23) l1_1.toNatClampNeg t3)
      let t5 : Int32 := l1_1 + 1
      gsY_X11_keepAir_1_L1 NF n1 t5 v1 f4 w1 g1
def gsY_X11_keepAir_1 (NF : Nat) (v : Nat → Int32) (f : Nat → Nat → Int32) (w : Int64) (g : Nat → Int64) : (Nat → Int32) × (Nat → Nat → Int32) × (Int64) × (Nat → Int64) :=
  gsY_X11_keepAir_1_L1 NF (4294967296 + NF) 0 v f w g
theorem gsY_X11_keepAir_1_q2 {NF : Nat} {v : Nat → Int32} {f : Nat → Nat → Int32} {w : Int64} {g : Nat → Int64}  : gsY_X11_keepAir_1 NF v f w g = gsY_X11_keepAir_1_L1 NF (4294967296 + NF) 0 v f w g := by
  simp only [gsY_X11_keepAir_1]
theorem gsY_X11_keepAir_1_q0 {NF : Nat} {n1 : Nat} {l1_1 : Int32} {v1 : Nat → Int32} {f1 : Nat → Nat → Int32} {w1 : Int64} {g1 : Nat → Int64} (h0 : (39 ≤ l1_1)) : gsY_X11_keepAir_1_L1 NF (n1 + 1) l1_1 v1 f1 w1 g1 = (v1, f1, w1, g1) := by
  simp only [gsY_X11_keepAir_1_L1, if_pos h0]
theorem gsY_X11_keepAir_1_q1 {NF : Nat} {n1 : Nat} {l1_1 : Int32} {v1 : Nat → Int32} {f1 : Nat → Nat → Int32} {w1 : Int64} {g1 : Nat → Int64} {t3 : Int32} {f4 : Nat → Nat → Int32} {t5 : Int32} (h0 : ¬ (39 ≤ l1_1)) (h1 : t3 = f1 24 (l1_1).toNatClampNeg) (h2 : f4 = upd2 f1 23 (upd (f1 23) l1_1.toNatClampNeg t3)) (h3 : t5 = l1_1 + 1) : gsY_X11_keepAir_1_L1 NF (n1 + 1) l1_1 v1 f1 w1 g1 = gsY_X11_keepAir_1_L1 NF n1 t5 v1 f4 w1 g1 := by
  subst h1 h2 h3
  simp only [gsY_X11_keepAir_1_L1, if_neg h0]
def gsY_X11_regiment_1_L31 (NF : Nat) (v2 : Nat → Int32) : Nat → (Int32) → (Nat → Int32) → (Nat → Nat → Int32) → (Int64) → (Nat → Int64) → Int32 × (Nat → Int32) × (Nat → Nat → Int32) × (Int64) × (Nat → Int64)
  | 0, _, _, _, _, _ => (0, (fun _ => 0), (fun _ _ => 0), 0, (fun _ => 0))
  | n31 + 1, l1_31, v31, f31, w31, g31 =>
    if 3 ≤ l1_31 then
      ((v2 17), v31, f31, w31, g31)
    else
      let f33 : Nat → Nat → Int32 := upd2 f31 36 (upd (f31 36) l1_31.toNatClampNeg (vp_nar .boolean 0))
      let t34 : Int32 := l1_31 + 1
      gsY_X11_regiment_1_L31 NF v2 n31 t34 v31 f33 w31 g31
def gsY_X11_regiment_1_L16 (NF : Nat) (v2 : Nat → Int32) : Nat → (Int32) → (Nat → Int32) → (Nat → Nat → Int32) → (Int64) → (Nat → Int64) → Int32 × (Nat → Int32) × (Nat → Nat → Int32) × (Int64) × (Nat → Int64)
  | 0, _, _, _, _, _ => (0, (fun _ => 0), (fun _ _ => 0), 0, (fun _ => 0))
  | n16 + 1, l1_16, v16, f16, w16, g16 =>
    if (v2 18) ≤ l1_16 then
      match gsY_X11_begin_1 NF v16 f16 w16 g16 with
      | (v21, f22, w23, g24) =>
        let f25 : Nat → Nat → Int32 := upd2 f22 24 (upd (f22 24) (38 : Int32).toNatClampNeg (v21 23))
        match gsY_X11_keepAir_1 NF v21 f25 w23 g24 with
        | (v27, f28, w29, g30) =>
          gsY_X11_regiment_1_L31 NF v2 (4294967296 + NF) 0 (upd (upd (upd (upd v27 35 0) 36 0) 38 0) 37 0) f28 w29 g30
    else
      let t39 : Int32 := f16 12 (l1_16).toNatClampNeg
      let f40 : Nat → Nat → Int32 := upd2 f16 19 (upd (f16 19) l1_16.toNatClampNeg t39)
      let t41 : Int32 := f40 13 (l1_16).toNatClampNeg
      let f42 : Nat → Nat → Int32 := upd2 f40 20 (upd (f40 20) l1_16.toNatClampNeg t41)
      let t43 : Int32 := f42 14 (l1_16).toNatClampNeg
      let f44 : Nat → Nat → Int32 := upd2 f42 21 (upd (f42 21) l1_16.toNatClampNeg t43)
      let t45 : Int32 := f44 15 (l1_16).toNatClampNeg
      let f46 : Nat → Nat → Int32 := upd2 f44 22 (upd (f44 22) l1_16.toNatClampNeg t45)
      let t47 : Int32 := l1_16 + 1
      gsY_X11_regiment_1_L16 NF v2 n16 t47 v16 f46 w16 g16
def gsY_X11_regiment_1_L12 (NF : Nat) (v2 : Nat → Int32) : Nat → (Int32) → (Nat → Int32) → (Nat → Nat → Int32) → (Int64) → (Nat → Int64) → Int32 × (Nat → Int32) × (Nat → Nat → Int32) × (Int64) × (Nat → Int64)
  | 0, _, _, _, _, _ => (0, (fun _ => 0), (fun _ _ => 0), 0, (fun _ => 0))
  | n12 + 1, l1_12, v12, f12, w12, g12 =>
    if (v2 17) ≤ l1_12 then
      gsY_X11_regiment_1_L16 NF v2 (4294967296 + NF) 0 v12 f12 w12 g12
    else
      let t51 : Int32 := f12 9 (l1_12).toNatClampNeg
      let f52 : Nat → Nat → Int32 := upd2 f12 16 (upd (f12 16) l1_12.toNatClampNeg t51)
      let t53 : Int32 := f52 10 (l1_12).toNatClampNeg
      let f54 : Nat → Nat → Int32 := upd2 f52 17 (upd (f52 17) l1_12.toNatClampNeg t53)
      let t55 : Int32 := f54 11 (l1_12).toNatClampNeg
      let f56 : Nat → Nat → Int32 := upd2 f54 18 (upd (f54 18) l1_12.toNatClampNeg t55)
      let t57 : Int32 := l1_12 + 1
      gsY_X11_regiment_1_L12 NF v2 n12 t57 v12 f56 w12 g12
def gsY_X11_regiment_1_L10 (NF : Nat) (v2 : Nat → Int32) : Nat → (Int32) → (Nat → Int32) → (Nat → Nat → Int32) → (Int64) → (Nat → Int64) → Int32 × (Nat → Int32) × (Nat → Nat → Int32) × (Int64) × (Nat → Int64)
  | 0, _, _, _, _, _ => (0, (fun _ => 0), (fun _ _ => 0), 0, (fun _ => 0))
  | n10 + 1, l1_10, v10, f10, w10, g10 =>
    if 0 ≤ l1_10 then
      gsY_X11_regiment_1_L12 NF v2 (4294967296 + NF) 0 v10 f10 w10 g10
    else
      let t59 : Int32 := f10 2 (l1_10).toNatClampNeg
      let f60 : Nat → Nat → Int32 := upd2 f10 4 (upd (f10 4) l1_10.toNatClampNeg t59)
      let t61 : Int32 := f60 3 (l1_10).toNatClampNeg
      let f62 : Nat → Nat → Int32 := upd2 f60 5 (upd (f60 5) l1_10.toNatClampNeg t61)
      let t63 : Int32 := l1_10 + 1
      gsY_X11_regiment_1_L10 NF v2 n10 t63 v10 f62 w10 g10
def gsY_X11_regiment_1_L89 (NF : Nat) (v2 : Nat → Int32) : Nat → (Int32) → (Nat → Int32) → (Nat → Nat → Int32) → (Int64) → (Nat → Int64) → Int32 × (Nat → Int32) × (Nat → Nat → Int32) × (Int64) × (Nat → Int64)
  | 0, _, _, _, _, _ => (0, (fun _ => 0), (fun _ _ => 0), 0, (fun _ => 0))
  | n89 + 1, l1_89, v89, f89, w89, g89 =>
    if 3 ≤ l1_89 then
      ((v2 17), v89, f89, w89, g89)
    else
      let f91 : Nat → Nat → Int32 := upd2 f89 36 (upd (f89 36) l1_89.toNatClampNeg (vp_nar .boolean 0))
      let t92 : Int32 := l1_89 + 1
      gsY_X11_regiment_1_L89 NF v2 n89 t92 v89 f91 w89 g89
def gsY_X11_regiment_1_L74 (NF : Nat) (v2 : Nat → Int32) : Nat → (Int32) → (Nat → Int32) → (Nat → Nat → Int32) → (Int64) → (Nat → Int64) → Int32 × (Nat → Int32) × (Nat → Nat → Int32) × (Int64) × (Nat → Int64)
  | 0, _, _, _, _, _ => (0, (fun _ => 0), (fun _ _ => 0), 0, (fun _ => 0))
  | n74 + 1, l1_74, v74, f74, w74, g74 =>
    if (v2 18) ≤ l1_74 then
      match gsY_X11_begin_1 NF v74 f74 w74 g74 with
      | (v79, f80, w81, g82) =>
        let f83 : Nat → Nat → Int32 := upd2 f80 24 (upd (f80 24) (38 : Int32).toNatClampNeg (v79 23))
        match gsY_X11_keepAir_1 NF v79 f83 w81 g82 with
        | (v85, f86, w87, g88) =>
          gsY_X11_regiment_1_L89 NF v2 (4294967296 + NF) 0 (upd (upd (upd (upd v85 35 0) 36 0) 38 0) 37 0) f86 w87 g88
    else
      let t97 : Int32 := f74 12 (l1_74).toNatClampNeg
      let f98 : Nat → Nat → Int32 := upd2 f74 19 (upd (f74 19) l1_74.toNatClampNeg t97)
      let t99 : Int32 := f98 13 (l1_74).toNatClampNeg
      let f100 : Nat → Nat → Int32 := upd2 f98 20 (upd (f98 20) l1_74.toNatClampNeg t99)
      let t101 : Int32 := f100 14 (l1_74).toNatClampNeg
      let f102 : Nat → Nat → Int32 := upd2 f100 21 (upd (f100 21) l1_74.toNatClampNeg t101)
      let t103 : Int32 := f102 15 (l1_74).toNatClampNeg
      let f104 : Nat → Nat → Int32 := upd2 f102 22 (upd (f102 22) l1_74.toNatClampNeg t103)
      let t105 : Int32 := l1_74 + 1
      gsY_X11_regiment_1_L74 NF v2 n74 t105 v74 f104 w74 g74
def gsY_X11_regiment_1_L70 (NF : Nat) (v2 : Nat → Int32) : Nat → (Int32) → (Nat → Int32) → (Nat → Nat → Int32) → (Int64) → (Nat → Int64) → Int32 × (Nat → Int32) × (Nat → Nat → Int32) × (Int64) × (Nat → Int64)
  | 0, _, _, _, _, _ => (0, (fun _ => 0), (fun _ _ => 0), 0, (fun _ => 0))
  | n70 + 1, l1_70, v70, f70, w70, g70 =>
    if (v2 17) ≤ l1_70 then
      gsY_X11_regiment_1_L74 NF v2 (4294967296 + NF) 0 v70 f70 w70 g70
    else
      let t109 : Int32 := f70 9 (l1_70).toNatClampNeg
      let f110 : Nat → Nat → Int32 := upd2 f70 16 (upd (f70 16) l1_70.toNatClampNeg t109)
      let t111 : Int32 := f110 10 (l1_70).toNatClampNeg
      let f112 : Nat → Nat → Int32 := upd2 f110 17 (upd (f110 17) l1_70.toNatClampNeg t111)
      let t113 : Int32 := f112 11 (l1_70).toNatClampNeg
      let f114 : Nat → Nat → Int32 := upd2 f112 18 (upd (f112 18) l1_70.toNatClampNeg t113)
      let t115 : Int32 := l1_70 + 1
      gsY_X11_regiment_1_L70 NF v2 n70 t115 v70 f114 w70 g70
def gsY_X11_regiment_1_L66 (NF : Nat) (v2 : Nat → Int32) : Nat → (Int32) → (Nat → Int32) → (Nat → Nat → Int32) → (Int64) → (Nat → Int64) → Int32 × (Nat → Int32) × (Nat → Nat → Int32) × (Int64) × (Nat → Int64)
  | 0, _, _, _, _, _ => (0, (fun _ => 0), (fun _ _ => 0), 0, (fun _ => 0))
  | n66 + 1, l1_66, v66, f66, w66, g66 =>
    if (v2 8) ≤ l1_66 then
      gsY_X11_regiment_1_L70 NF v2 (4294967296 + NF) 0 v66 f66 w66 g66
    else
      let t119 : Int32 := f66 2 (l1_66).toNatClampNeg
      let f120 : Nat → Nat → Int32 := upd2 f66 4 (upd (f66 4) l1_66.toNatClampNeg t119)
      let t121 : Int32 := f120 3 (l1_66).toNatClampNeg
      let f122 : Nat → Nat → Int32 := upd2 f120 5 (upd (f120 5) l1_66.toNatClampNeg t121)
      let t123 : Int32 := l1_66 + 1
      gsY_X11_regiment_1_L66 NF v2 n66 t123 v66 f122 w66 g66
def gsY_X11_regiment_1 (NF : Nat) (v : Nat → Int32) (f : Nat → Nat → Int32) (w : Int64) (g : Nat → Int64) : Int32 × (Nat → Int32) × (Nat → Nat → Int32) × (Int64) × (Nat → Int64) :=
  match gsY_X11_readAll_1 NF v f w g with
  | (v2, f3, w4, g5) =>
    if (v2 1) ≤ 0 then
      if (v2 15) = 0 then
        gsY_X11_regiment_1_L10 NF v2 (4294967296 + NF) 0 (upd (upd (upd (upd (upd (upd (upd (upd (upd v2 24 (v2 17)) 25 (v2 18)) 26 (v2 19)) 27 (v2 20)) 28 (v2 21)) 29 (v2 22)) 12 (v2 11)) 16 (v2 15)) 9 0) f3 w4 g5
      else
        gsY_X11_regiment_1_L66 NF v2 (4294967296 + NF) 0 (upd (upd (upd (upd (upd (upd (upd (upd (upd v2 24 (v2 17)) 25 (v2 18)) 26 (v2 19)) 27 (v2 20)) 28 (v2 21)) 29 (v2 22)) 12 (v2 11)) 16 (v2 15)) 9 (v2 8)) f3 w4 g5
    else
      ((-1), v2, f3, w4, g5)
theorem gsY_X11_regiment_1_q8 {NF : Nat} {v : Nat → Int32} {f : Nat → Nat → Int32} {w : Int64} {g : Nat → Int64} {v2 : Nat → Int32} {f3 : Nat → Nat → Int32} {w4 : Int64} {g5 : Nat → Int64} (h0 : gsY_X11_readAll_1 NF v f w g = (v2, f3, w4, g5)) (h1 : ((v2 1) ≤ 0)) (h2 : ((v2 15) = 0)) : gsY_X11_regiment_1 NF v f w g = gsY_X11_regiment_1_L10 NF v2 (4294967296 + NF) 0 (upd (upd (upd (upd (upd (upd (upd (upd (upd v2 24 (v2 17)) 25 (v2 18)) 26 (v2 19)) 27 (v2 20)) 28 (v2 21)) 29 (v2 22)) 12 (v2 11)) 16 (v2 15)) 9 0) f3 w4 g5 := by
  simp only [gsY_X11_regiment_1, h0, if_pos h1, if_pos h2]
theorem gsY_X11_regiment_1_q17 {NF : Nat} {v : Nat → Int32} {f : Nat → Nat → Int32} {w : Int64} {g : Nat → Int64} {v2 : Nat → Int32} {f3 : Nat → Nat → Int32} {w4 : Int64} {g5 : Nat → Int64} (h0 : gsY_X11_readAll_1 NF v f w g = (v2, f3, w4, g5)) (h1 : ((v2 1) ≤ 0)) (h2 : ¬ ((v2 15) = 0)) : gsY_X11_regiment_1 NF v f w g = gsY_X11_regiment_1_L66 NF v2 (4294967296 + NF) 0 (upd (upd (upd (upd (upd (upd (upd (upd (upd v2 24 (v2 17)) 25 (v2 18)) 26 (v2 19)) 27 (v2 20)) 28 (v2 21)) 29 (v2 22)) 12 (v2 11)) 16 (v2 15)) 9 (v2 8)) f3 w4 g5 := by
  simp only [gsY_X11_regiment_1, h0, if_pos h1, if_neg h2]
theorem gsY_X11_regiment_1_q18 {NF : Nat} {v : Nat → Int32} {f : Nat → Nat → Int32} {w : Int64} {g : Nat → Int64} {v2 : Nat → Int32} {f3 : Nat → Nat → Int32} {w4 : Int64} {g5 : Nat → Int64} (h0 : gsY_X11_readAll_1 NF v f w g = (v2, f3, w4, g5)) (h1 : ¬ ((v2 1) ≤ 0)) : gsY_X11_regiment_1 NF v f w g = ((-1), v2, f3, w4, g5) := by
  simp only [gsY_X11_regiment_1, h0, if_neg h1]
theorem gsY_X11_regiment_1_q6 {NF : Nat} {v2 : Nat → Int32} {n10 : Nat} {l1_10 : Int32} {v10 : Nat → Int32} {f10 : Nat → Nat → Int32} {w10 : Int64} {g10 : Nat → Int64} (h0 : (0 ≤ l1_10)) : gsY_X11_regiment_1_L10 NF v2 (n10 + 1) l1_10 v10 f10 w10 g10 = gsY_X11_regiment_1_L12 NF v2 (4294967296 + NF) 0 v10 f10 w10 g10 := by
  simp only [gsY_X11_regiment_1_L10, if_pos h0]
theorem gsY_X11_regiment_1_q7 {NF : Nat} {v2 : Nat → Int32} {n10 : Nat} {l1_10 : Int32} {v10 : Nat → Int32} {f10 : Nat → Nat → Int32} {w10 : Int64} {g10 : Nat → Int64} {t59 : Int32} {f60 : Nat → Nat → Int32} {t61 : Int32} {f62 : Nat → Nat → Int32} {t63 : Int32} (h0 : ¬ (0 ≤ l1_10)) (h1 : t59 = f10 2 (l1_10).toNatClampNeg) (h2 : f60 = upd2 f10 4 (upd (f10 4) l1_10.toNatClampNeg t59)) (h3 : t61 = f60 3 (l1_10).toNatClampNeg) (h4 : f62 = upd2 f60 5 (upd (f60 5) l1_10.toNatClampNeg t61)) (h5 : t63 = l1_10 + 1) : gsY_X11_regiment_1_L10 NF v2 (n10 + 1) l1_10 v10 f10 w10 g10 = gsY_X11_regiment_1_L10 NF v2 n10 t63 v10 f62 w10 g10 := by
  subst h1 h2 h3 h4 h5
  simp only [gsY_X11_regiment_1_L10, if_neg h0]
theorem gsY_X11_regiment_1_q4 {NF : Nat} {v2 : Nat → Int32} {n12 : Nat} {l1_12 : Int32} {v12 : Nat → Int32} {f12 : Nat → Nat → Int32} {w12 : Int64} {g12 : Nat → Int64} (h0 : ((v2 17) ≤ l1_12)) : gsY_X11_regiment_1_L12 NF v2 (n12 + 1) l1_12 v12 f12 w12 g12 = gsY_X11_regiment_1_L16 NF v2 (4294967296 + NF) 0 v12 f12 w12 g12 := by
  simp only [gsY_X11_regiment_1_L12, if_pos h0]
theorem gsY_X11_regiment_1_q5 {NF : Nat} {v2 : Nat → Int32} {n12 : Nat} {l1_12 : Int32} {v12 : Nat → Int32} {f12 : Nat → Nat → Int32} {w12 : Int64} {g12 : Nat → Int64} {t51 : Int32} {f52 : Nat → Nat → Int32} {t53 : Int32} {f54 : Nat → Nat → Int32} {t55 : Int32} {f56 : Nat → Nat → Int32} {t57 : Int32} (h0 : ¬ ((v2 17) ≤ l1_12)) (h1 : t51 = f12 9 (l1_12).toNatClampNeg) (h2 : f52 = upd2 f12 16 (upd (f12 16) l1_12.toNatClampNeg t51)) (h3 : t53 = f52 10 (l1_12).toNatClampNeg) (h4 : f54 = upd2 f52 17 (upd (f52 17) l1_12.toNatClampNeg t53)) (h5 : t55 = f54 11 (l1_12).toNatClampNeg) (h6 : f56 = upd2 f54 18 (upd (f54 18) l1_12.toNatClampNeg t55)) (h7 : t57 = l1_12 + 1) : gsY_X11_regiment_1_L12 NF v2 (n12 + 1) l1_12 v12 f12 w12 g12 = gsY_X11_regiment_1_L12 NF v2 n12 t57 v12 f56 w12 g12 := by
  subst h1 h2 h3 h4 h5 h6 h7
  simp only [gsY_X11_regiment_1_L12, if_neg h0]
theorem gsY_X11_regiment_1_q2 {NF : Nat} {v2 : Nat → Int32} {n16 : Nat} {l1_16 : Int32} {v16 : Nat → Int32} {f16 : Nat → Nat → Int32} {w16 : Int64} {g16 : Nat → Int64} {v21 : Nat → Int32} {f22 : Nat → Nat → Int32} {w23 : Int64} {g24 : Nat → Int64} {f25 : Nat → Nat → Int32} {v27 : Nat → Int32} {f28 : Nat → Nat → Int32} {w29 : Int64} {g30 : Nat → Int64} (h0 : ((v2 18) ≤ l1_16)) (h1 : gsY_X11_begin_1 NF v16 f16 w16 g16 = (v21, f22, w23, g24)) (h2 : f25 = upd2 f22 24 (upd (f22 24) (38 : Int32).toNatClampNeg (v21 23))) (h3 : gsY_X11_keepAir_1 NF v21 f25 w23 g24 = (v27, f28, w29, g30)) : gsY_X11_regiment_1_L16 NF v2 (n16 + 1) l1_16 v16 f16 w16 g16 = gsY_X11_regiment_1_L31 NF v2 (4294967296 + NF) 0 (upd (upd (upd (upd v27 35 0) 36 0) 38 0) 37 0) f28 w29 g30 := by
  subst h2
  simp only [gsY_X11_regiment_1_L16, if_pos h0, h1, h3]
theorem gsY_X11_regiment_1_q3 {NF : Nat} {v2 : Nat → Int32} {n16 : Nat} {l1_16 : Int32} {v16 : Nat → Int32} {f16 : Nat → Nat → Int32} {w16 : Int64} {g16 : Nat → Int64} {t39 : Int32} {f40 : Nat → Nat → Int32} {t41 : Int32} {f42 : Nat → Nat → Int32} {t43 : Int32} {f44 : Nat → Nat → Int32} {t45 : Int32} {f46 : Nat → Nat → Int32} {t47 : Int32} (h0 : ¬ ((v2 18) ≤ l1_16)) (h1 : t39 = f16 12 (l1_16).toNatClampNeg) (h2 : f40 = upd2 f16 19 (upd (f16 19) l1_16.toNatClampNeg t39)) (h3 : t41 = f40 13 (l1_16).toNatClampNeg) (h4 : f42 = upd2 f40 20 (upd (f40 20) l1_16.toNatClampNeg t41)) (h5 : t43 = f42 14 (l1_16).toNatClampNeg) (h6 : f44 = upd2 f42 21 (upd (f42 21) l1_16.toNatClampNeg t43)) (h7 : t45 = f44 15 (l1_16).toNatClampNeg) (h8 : f46 = upd2 f44 22 (upd (f44 22) l1_16.toNatClampNeg t45)) (h9 : t47 = l1_16 + 1) : gsY_X11_regiment_1_L16 NF v2 (n16 + 1) l1_16 v16 f16 w16 g16 = gsY_X11_regiment_1_L16 NF v2 n16 t47 v16 f46 w16 g16 := by
  subst h1 h2 h3 h4 h5 h6 h7 h8 h9
  simp only [gsY_X11_regiment_1_L16, if_neg h0]
theorem gsY_X11_regiment_1_q0 {NF : Nat} {v2 : Nat → Int32} {n31 : Nat} {l1_31 : Int32} {v31 : Nat → Int32} {f31 : Nat → Nat → Int32} {w31 : Int64} {g31 : Nat → Int64} (h0 : (3 ≤ l1_31)) : gsY_X11_regiment_1_L31 NF v2 (n31 + 1) l1_31 v31 f31 w31 g31 = ((v2 17), v31, f31, w31, g31) := by
  simp only [gsY_X11_regiment_1_L31, if_pos h0]
theorem gsY_X11_regiment_1_q1 {NF : Nat} {v2 : Nat → Int32} {n31 : Nat} {l1_31 : Int32} {v31 : Nat → Int32} {f31 : Nat → Nat → Int32} {w31 : Int64} {g31 : Nat → Int64} {f33 : Nat → Nat → Int32} {t34 : Int32} (h0 : ¬ (3 ≤ l1_31)) (h1 : f33 = upd2 f31 36 (upd (f31 36) l1_31.toNatClampNeg (vp_nar .boolean 0))) (h2 : t34 = l1_31 + 1) : gsY_X11_regiment_1_L31 NF v2 (n31 + 1) l1_31 v31 f31 w31 g31 = gsY_X11_regiment_1_L31 NF v2 n31 t34 v31 f33 w31 g31 := by
  subst h1 h2
  simp only [gsY_X11_regiment_1_L31, if_neg h0]
theorem gsY_X11_regiment_1_q15 {NF : Nat} {v2 : Nat → Int32} {n66 : Nat} {l1_66 : Int32} {v66 : Nat → Int32} {f66 : Nat → Nat → Int32} {w66 : Int64} {g66 : Nat → Int64} (h0 : ((v2 8) ≤ l1_66)) : gsY_X11_regiment_1_L66 NF v2 (n66 + 1) l1_66 v66 f66 w66 g66 = gsY_X11_regiment_1_L70 NF v2 (4294967296 + NF) 0 v66 f66 w66 g66 := by
  simp only [gsY_X11_regiment_1_L66, if_pos h0]
theorem gsY_X11_regiment_1_q16 {NF : Nat} {v2 : Nat → Int32} {n66 : Nat} {l1_66 : Int32} {v66 : Nat → Int32} {f66 : Nat → Nat → Int32} {w66 : Int64} {g66 : Nat → Int64} {t119 : Int32} {f120 : Nat → Nat → Int32} {t121 : Int32} {f122 : Nat → Nat → Int32} {t123 : Int32} (h0 : ¬ ((v2 8) ≤ l1_66)) (h1 : t119 = f66 2 (l1_66).toNatClampNeg) (h2 : f120 = upd2 f66 4 (upd (f66 4) l1_66.toNatClampNeg t119)) (h3 : t121 = f120 3 (l1_66).toNatClampNeg) (h4 : f122 = upd2 f120 5 (upd (f120 5) l1_66.toNatClampNeg t121)) (h5 : t123 = l1_66 + 1) : gsY_X11_regiment_1_L66 NF v2 (n66 + 1) l1_66 v66 f66 w66 g66 = gsY_X11_regiment_1_L66 NF v2 n66 t123 v66 f122 w66 g66 := by
  subst h1 h2 h3 h4 h5
  simp only [gsY_X11_regiment_1_L66, if_neg h0]
theorem gsY_X11_regiment_1_q13 {NF : Nat} {v2 : Nat → Int32} {n70 : Nat} {l1_70 : Int32} {v70 : Nat → Int32} {f70 : Nat → Nat → Int32} {w70 : Int64} {g70 : Nat → Int64} (h0 : ((v2 17) ≤ l1_70)) : gsY_X11_regiment_1_L70 NF v2 (n70 + 1) l1_70 v70 f70 w70 g70 = gsY_X11_regiment_1_L74 NF v2 (4294967296 + NF) 0 v70 f70 w70 g70 := by
  simp only [gsY_X11_regiment_1_L70, if_pos h0]
theorem gsY_X11_regiment_1_q14 {NF : Nat} {v2 : Nat → Int32} {n70 : Nat} {l1_70 : Int32} {v70 : Nat → Int32} {f70 : Nat → Nat → Int32} {w70 : Int64} {g70 : Nat → Int64} {t109 : Int32} {f110 : Nat → Nat → Int32} {t111 : Int32} {f112 : Nat → Nat → Int32} {t113 : Int32} {f114 : Nat → Nat → Int32} {t115 : Int32} (h0 : ¬ ((v2 17) ≤ l1_70)) (h1 : t109 = f70 9 (l1_70).toNatClampNeg) (h2 : f110 = upd2 f70 16 (upd (f70 16) l1_70.toNatClampNeg t109)) (h3 : t111 = f110 10 (l1_70).toNatClampNeg) (h4 : f112 = upd2 f110 17 (upd (f110 17) l1_70.toNatClampNeg t111)) (h5 : t113 = f112 11 (l1_70).toNatClampNeg) (h6 : f114 = upd2 f112 18 (upd (f112 18) l1_70.toNatClampNeg t113)) (h7 : t115 = l1_70 + 1) : gsY_X11_regiment_1_L70 NF v2 (n70 + 1) l1_70 v70 f70 w70 g70 = gsY_X11_regiment_1_L70 NF v2 n70 t115 v70 f114 w70 g70 := by
  subst h1 h2 h3 h4 h5 h6 h7
  simp only [gsY_X11_regiment_1_L70, if_neg h0]
theorem gsY_X11_regiment_1_q11 {NF : Nat} {v2 : Nat → Int32} {n74 : Nat} {l1_74 : Int32} {v74 : Nat → Int32} {f74 : Nat → Nat → Int32} {w74 : Int64} {g74 : Nat → Int64} {v79 : Nat → Int32} {f80 : Nat → Nat → Int32} {w81 : Int64} {g82 : Nat → Int64} {f83 : Nat → Nat → Int32} {v85 : Nat → Int32} {f86 : Nat → Nat → Int32} {w87 : Int64} {g88 : Nat → Int64} (h0 : ((v2 18) ≤ l1_74)) (h1 : gsY_X11_begin_1 NF v74 f74 w74 g74 = (v79, f80, w81, g82)) (h2 : f83 = upd2 f80 24 (upd (f80 24) (38 : Int32).toNatClampNeg (v79 23))) (h3 : gsY_X11_keepAir_1 NF v79 f83 w81 g82 = (v85, f86, w87, g88)) : gsY_X11_regiment_1_L74 NF v2 (n74 + 1) l1_74 v74 f74 w74 g74 = gsY_X11_regiment_1_L89 NF v2 (4294967296 + NF) 0 (upd (upd (upd (upd v85 35 0) 36 0) 38 0) 37 0) f86 w87 g88 := by
  subst h2
  simp only [gsY_X11_regiment_1_L74, if_pos h0, h1, h3]
theorem gsY_X11_regiment_1_q12 {NF : Nat} {v2 : Nat → Int32} {n74 : Nat} {l1_74 : Int32} {v74 : Nat → Int32} {f74 : Nat → Nat → Int32} {w74 : Int64} {g74 : Nat → Int64} {t97 : Int32} {f98 : Nat → Nat → Int32} {t99 : Int32} {f100 : Nat → Nat → Int32} {t101 : Int32} {f102 : Nat → Nat → Int32} {t103 : Int32} {f104 : Nat → Nat → Int32} {t105 : Int32} (h0 : ¬ ((v2 18) ≤ l1_74)) (h1 : t97 = f74 12 (l1_74).toNatClampNeg) (h2 : f98 = upd2 f74 19 (upd (f74 19) l1_74.toNatClampNeg t97)) (h3 : t99 = f98 13 (l1_74).toNatClampNeg) (h4 : f100 = upd2 f98 20 (upd (f98 20) l1_74.toNatClampNeg t99)) (h5 : t101 = f100 14 (l1_74).toNatClampNeg) (h6 : f102 = upd2 f100 21 (upd (f100 21) l1_74.toNatClampNeg t101)) (h7 : t103 = f102 15 (l1_74).toNatClampNeg) (h8 : f104 = upd2 f102 22 (upd (f102 22) l1_74.toNatClampNeg t103)) (h9 : t105 = l1_74 + 1) : gsY_X11_regiment_1_L74 NF v2 (n74 + 1) l1_74 v74 f74 w74 g74 = gsY_X11_regiment_1_L74 NF v2 n74 t105 v74 f104 w74 g74 := by
  subst h1 h2 h3 h4 h5 h6 h7 h8 h9
  simp only [gsY_X11_regiment_1_L74, if_neg h0]
theorem gsY_X11_regiment_1_q9 {NF : Nat} {v2 : Nat → Int32} {n89 : Nat} {l1_89 : Int32} {v89 : Nat → Int32} {f89 : Nat → Nat → Int32} {w89 : Int64} {g89 : Nat → Int64} (h0 : (3 ≤ l1_89)) : gsY_X11_regiment_1_L89 NF v2 (n89 + 1) l1_89 v89 f89 w89 g89 = ((v2 17), v89, f89, w89, g89) := by
  simp only [gsY_X11_regiment_1_L89, if_pos h0]
theorem gsY_X11_regiment_1_q10 {NF : Nat} {v2 : Nat → Int32} {n89 : Nat} {l1_89 : Int32} {v89 : Nat → Int32} {f89 : Nat → Nat → Int32} {w89 : Int64} {g89 : Nat → Int64} {f91 : Nat → Nat → Int32} {t92 : Int32} (h0 : ¬ (3 ≤ l1_89)) (h1 : f91 = upd2 f89 36 (upd (f89 36) l1_89.toNatClampNeg (vp_nar .boolean 0))) (h2 : t92 = l1_89 + 1) : gsY_X11_regiment_1_L89 NF v2 (n89 + 1) l1_89 v89 f89 w89 g89 = gsY_X11_regiment_1_L89 NF v2 n89 t92 v89 f91 w89 g89 := by
  subst h1 h2
  simp only [gsY_X11_regiment_1_L89, if_neg h0]
def gsY_X11_isIn_1 (NF : Nat) (p0 : Int32) (p1 : Int32) (p2 : Int32) (v : Nat → Int32) (f : Nat → Nat → Int32) (w : Int64) (g : Nat → Int64) : Int32 :=
  if p0 < p1 then
    0
  else
    if p2 < p0 then
      0
    else
      1
theorem gsY_X11_isIn_1_q0 {NF : Nat} {p0 : Int32} {p1 : Int32} {p2 : Int32} {v : Nat → Int32} {f : Nat → Nat → Int32} {w : Int64} {g : Nat → Int64} (h0 : (p0 < p1)) : gsY_X11_isIn_1 NF p0 p1 p2 v f w g = 0 := by
  simp only [gsY_X11_isIn_1, if_pos h0]
theorem gsY_X11_isIn_1_q1 {NF : Nat} {p0 : Int32} {p1 : Int32} {p2 : Int32} {v : Nat → Int32} {f : Nat → Nat → Int32} {w : Int64} {g : Nat → Int64} (h0 : ¬ (p0 < p1)) (h1 : (p2 < p0)) : gsY_X11_isIn_1 NF p0 p1 p2 v f w g = 0 := by
  simp only [gsY_X11_isIn_1, if_neg h0, if_pos h1]
theorem gsY_X11_isIn_1_q2 {NF : Nat} {p0 : Int32} {p1 : Int32} {p2 : Int32} {v : Nat → Int32} {f : Nat → Nat → Int32} {w : Int64} {g : Nat → Int64} (h0 : ¬ (p0 < p1)) (h1 : ¬ (p2 < p0)) : gsY_X11_isIn_1 NF p0 p1 p2 v f w g = 1 := by
  simp only [gsY_X11_isIn_1, if_neg h0, if_neg h1]
def gsY_X11_seen_1 (NF : Nat) (p1 : Int32) (p2 : Int32) (v : Nat → Int32) (f : Nat → Nat → Int32) (w : Int64) (g : Nat → Int64) : Int32 × (Nat → Int32) × (Nat → Nat → Int32) × (Int64) × (Nat → Int64) :=
  if gsY_X11_isIn_1 NF p1 0 20 v f w g = 1 then
    if (v 24) = 0 then
      ((-1), v, f, w, g)
    else
      if (v 25) = 0 then
        ((-1), v, f, w, g)
      else
        if (v 38) = 30 then
          ((-1), v, f, w, g)
        else
          let f9 : Nat → Nat → Int32 := upd2 f 30 (upd (f 30) (v 38).toNatClampNeg p1)
          let f10 : Nat → Nat → Int32 := upd2 f9 33 (upd (f9 33) (v 38).toNatClampNeg (vp_nar .boolean p2))
          let f11 : Nat → Nat → Int32 := upd2 f10 31 (upd (f10 31) (v 38).toNatClampNeg (v 39))
          let f12 : Nat → Nat → Int32 := upd2 f11 32 (upd (f11 32) (v 38).toNatClampNeg (-1))
          let t13 : Int32 := (v 38) + 1
          let t15 : Int32 := t13 - 1
          (t15, (upd v 38 t13), f12, w, g)
  else
    ((-1), v, f, w, g)
theorem gsY_X11_seen_1_q0 {NF : Nat} {p1 : Int32} {p2 : Int32} {v : Nat → Int32} {f : Nat → Nat → Int32} {w : Int64} {g : Nat → Int64} (h0 : gsY_X11_isIn_1 NF p1 0 20 v f w g = 1) (h1 : ((v 24) = 0)) : gsY_X11_seen_1 NF p1 p2 v f w g = ((-1), v, f, w, g) := by
  simp only [gsY_X11_seen_1, h0, if_pos h1, ite11, ite01, if_true, if_false]
theorem gsY_X11_seen_1_q1 {NF : Nat} {p1 : Int32} {p2 : Int32} {v : Nat → Int32} {f : Nat → Nat → Int32} {w : Int64} {g : Nat → Int64} (h0 : gsY_X11_isIn_1 NF p1 0 20 v f w g = 1) (h1 : ¬ ((v 24) = 0)) (h2 : ((v 25) = 0)) : gsY_X11_seen_1 NF p1 p2 v f w g = ((-1), v, f, w, g) := by
  simp only [gsY_X11_seen_1, h0, if_neg h1, if_pos h2, ite11, ite01, if_true, if_false]
theorem gsY_X11_seen_1_q2 {NF : Nat} {p1 : Int32} {p2 : Int32} {v : Nat → Int32} {f : Nat → Nat → Int32} {w : Int64} {g : Nat → Int64} {f9 : Nat → Nat → Int32} {f10 : Nat → Nat → Int32} {f11 : Nat → Nat → Int32} {f12 : Nat → Nat → Int32} {t13 : Int32} {t15 : Int32} (h0 : gsY_X11_isIn_1 NF p1 0 20 v f w g = 1) (h1 : ¬ ((v 24) = 0)) (h2 : ¬ ((v 25) = 0)) (h3 : ¬ ((v 38) = 30)) (h4 : f9 = upd2 f 30 (upd (f 30) (v 38).toNatClampNeg p1)) (h5 : f10 = upd2 f9 33 (upd (f9 33) (v 38).toNatClampNeg (vp_nar .boolean p2))) (h6 : f11 = upd2 f10 31 (upd (f10 31) (v 38).toNatClampNeg (v 39))) (h7 : f12 = upd2 f11 32 (upd (f11 32) (v 38).toNatClampNeg (-1))) (h8 : t13 = (v 38) + 1) (h9 : t15 = t13 - 1) : gsY_X11_seen_1 NF p1 p2 v f w g = (t15, (upd v 38 t13), f12, w, g) := by
  subst h4 h5 h6 h7 h8 h9
  simp only [gsY_X11_seen_1, h0, if_neg h1, if_neg h2, if_neg h3, ite11, ite01, if_true, if_false]
theorem gsY_X11_seen_1_q3 {NF : Nat} {p1 : Int32} {p2 : Int32} {v : Nat → Int32} {f : Nat → Nat → Int32} {w : Int64} {g : Nat → Int64} (h0 : gsY_X11_isIn_1 NF p1 0 20 v f w g = 1) (h1 : ¬ ((v 24) = 0)) (h2 : ¬ ((v 25) = 0)) (h3 : ((v 38) = 30)) : gsY_X11_seen_1 NF p1 p2 v f w g = ((-1), v, f, w, g) := by
  simp only [gsY_X11_seen_1, h0, if_neg h1, if_neg h2, if_pos h3, ite11, ite01, if_true, if_false]
theorem gsY_X11_seen_1_q4 {NF : Nat} {p1 : Int32} {p2 : Int32} {v : Nat → Int32} {f : Nat → Nat → Int32} {w : Int64} {g : Nat → Int64} (h0 : gsY_X11_isIn_1 NF p1 0 20 v f w g = 0) : gsY_X11_seen_1 NF p1 p2 v f w g = ((-1), v, f, w, g) := by
  simp only [gsY_X11_seen_1, h0, ite11, ite01, if_true, if_false]
def gsY_X11_untell_1 (NF : Nat) (p1 : Int32) (v : Nat → Int32) (f : Nat → Nat → Int32) (w : Int64) (g : Nat → Int64) : Int32 × (Nat → Int32) × (Nat → Nat → Int32) × (Int64) × (Nat → Int64) :=
  let t1 : Int32 := (v 38) - 1
  if gsY_X11_isIn_1 NF p1 0 t1 v f w g = 1 then
    let t7 : Int32 := f 32 (p1).toNatClampNeg
    if t7 < 0 then
      let f9 : Nat → Nat → Int32 := upd2 f 32 (upd (f 32) p1.toNatClampNeg (v 39))
      (1, v, f9, w, g)
    else
      (0, v, f, w, g)
  else
    (0, v, f, w, g)
theorem gsY_X11_untell_1_q0 {NF : Nat} {p1 : Int32} {v : Nat → Int32} {f : Nat → Nat → Int32} {w : Int64} {g : Nat → Int64} {t1 : Int32} {t7 : Int32} {f9 : Nat → Nat → Int32} (h0 : t1 = (v 38) - 1) (h1 : gsY_X11_isIn_1 NF p1 0 t1 v f w g = 1) (h2 : t7 = f 32 (p1).toNatClampNeg) (h3 : (t7 < 0)) (h4 : f9 = upd2 f 32 (upd (f 32) p1.toNatClampNeg (v 39))) : gsY_X11_untell_1 NF p1 v f w g = (1, v, f9, w, g) := by
  subst h0 h2 h4
  simp only [gsY_X11_untell_1, h1, if_pos h3, ite11, ite01, if_true, if_false]
theorem gsY_X11_untell_1_q1 {NF : Nat} {p1 : Int32} {v : Nat → Int32} {f : Nat → Nat → Int32} {w : Int64} {g : Nat → Int64} {t1 : Int32} {t7 : Int32} (h0 : t1 = (v 38) - 1) (h1 : gsY_X11_isIn_1 NF p1 0 t1 v f w g = 1) (h2 : t7 = f 32 (p1).toNatClampNeg) (h3 : ¬ (t7 < 0)) : gsY_X11_untell_1 NF p1 v f w g = (0, v, f, w, g) := by
  subst h0 h2
  simp only [gsY_X11_untell_1, h1, if_neg h3, ite11, ite01, if_true, if_false]
theorem gsY_X11_untell_1_q2 {NF : Nat} {p1 : Int32} {v : Nat → Int32} {f : Nat → Nat → Int32} {w : Int64} {g : Nat → Int64} {t1 : Int32} (h0 : t1 = (v 38) - 1) (h1 : gsY_X11_isIn_1 NF p1 0 t1 v f w g = 0) : gsY_X11_untell_1 NF p1 v f w g = (0, v, f, w, g) := by
  subst h0
  simp only [gsY_X11_untell_1, h1, ite11, ite01, if_true, if_false]
def gsY_X11_later_1 (NF : Nat) (p1 : Int32) (v : Nat → Int32) (f : Nat → Nat → Int32) (w : Int64) (g : Nat → Int64) : Int32 × (Nat → Int32) × (Nat → Nat → Int32) × (Int64) × (Nat → Int64) :=
  if p1 < 0 then
    ((-1), v, f, w, g)
  else
    if 1000 < p1 then
      ((-1), v, f, w, g)
    else
      let t3 : Int32 := (v 39) + p1
      if t3 ≤ 100000 then
        (t3, (upd v 39 t3), f, w, g)
      else
        ((-1), v, f, w, g)
theorem gsY_X11_later_1_q0 {NF : Nat} {p1 : Int32} {v : Nat → Int32} {f : Nat → Nat → Int32} {w : Int64} {g : Nat → Int64} (h0 : (p1 < 0)) : gsY_X11_later_1 NF p1 v f w g = ((-1), v, f, w, g) := by
  simp only [gsY_X11_later_1, if_pos h0]
theorem gsY_X11_later_1_q1 {NF : Nat} {p1 : Int32} {v : Nat → Int32} {f : Nat → Nat → Int32} {w : Int64} {g : Nat → Int64} (h0 : ¬ (p1 < 0)) (h1 : (1000 < p1)) : gsY_X11_later_1 NF p1 v f w g = ((-1), v, f, w, g) := by
  simp only [gsY_X11_later_1, if_neg h0, if_pos h1]
theorem gsY_X11_later_1_q2 {NF : Nat} {p1 : Int32} {v : Nat → Int32} {f : Nat → Nat → Int32} {w : Int64} {g : Nat → Int64} {t3 : Int32} (h0 : ¬ (p1 < 0)) (h1 : ¬ (1000 < p1)) (h2 : t3 = (v 39) + p1) (h3 : (t3 ≤ 100000)) : gsY_X11_later_1 NF p1 v f w g = (t3, (upd v 39 t3), f, w, g) := by
  subst h2
  simp only [gsY_X11_later_1, if_neg h0, if_neg h1, if_pos h3]
theorem gsY_X11_later_1_q3 {NF : Nat} {p1 : Int32} {v : Nat → Int32} {f : Nat → Nat → Int32} {w : Int64} {g : Nat → Int64} {t3 : Int32} (h0 : ¬ (p1 < 0)) (h1 : ¬ (1000 < p1)) (h2 : t3 = (v 39) + p1) (h3 : ¬ (t3 ≤ 100000)) : gsY_X11_later_1 NF p1 v f w g = ((-1), v, f, w, g) := by
  subst h2
  simp only [gsY_X11_later_1, if_neg h0, if_neg h1, if_neg h3]
def gsY_X11_power_1_L1 (NF : Nat) (p0 : Int32) (p1 : Int32) : Nat → (Int32) → (Int32) → Int32
  | 0, _, _ => 0
  | n1 + 1, l2_1, l3_1 =>
    if p1 ≤ l3_1 then
      l2_1
    else
      let t7 : Int32 := l2_1 * p0
      let t8 : Int32 := l3_1 + 1
      gsY_X11_power_1_L1 NF p0 p1 n1 t7 t8
def gsY_X11_power_1 (NF : Nat) (p0 : Int32) (p1 : Int32) (v : Nat → Int32) (f : Nat → Nat → Int32) (w : Int64) (g : Nat → Int64) : Int32 :=
  gsY_X11_power_1_L1 NF p0 p1 (4294967296 + NF) 1 0
theorem gsY_X11_power_1_q2 {NF : Nat} {p0 : Int32} {p1 : Int32} {v : Nat → Int32} {f : Nat → Nat → Int32} {w : Int64} {g : Nat → Int64}  : gsY_X11_power_1 NF p0 p1 v f w g = gsY_X11_power_1_L1 NF p0 p1 (4294967296 + NF) 1 0 := by
  simp only [gsY_X11_power_1]
theorem gsY_X11_power_1_q0 {NF : Nat} {p0 : Int32} {p1 : Int32} {n1 : Nat} {l2_1 : Int32} {l3_1 : Int32} (h0 : (p1 ≤ l3_1)) : gsY_X11_power_1_L1 NF p0 p1 (n1 + 1) l2_1 l3_1 = l2_1 := by
  simp only [gsY_X11_power_1_L1, if_pos h0]
theorem gsY_X11_power_1_q1 {NF : Nat} {p0 : Int32} {p1 : Int32} {n1 : Nat} {l2_1 : Int32} {l3_1 : Int32} {t7 : Int32} {t8 : Int32} (h0 : ¬ (p1 ≤ l3_1)) (h1 : t7 = l2_1 * p0) (h2 : t8 = l3_1 + 1) : gsY_X11_power_1_L1 NF p0 p1 (n1 + 1) l2_1 l3_1 = gsY_X11_power_1_L1 NF p0 p1 n1 t7 t8 := by
  subst h1 h2
  simp only [gsY_X11_power_1_L1, if_neg h0]
def gsY_X11_power_2 (NF : Nat) (v : Nat → Int32) (f : Nat → Nat → Int32) (w : Int64) (g : Nat → Int64) : Int32 :=
  1
theorem gsY_X11_power_2_q0 {NF : Nat} {v : Nat → Int32} {f : Nat → Nat → Int32} {w : Int64} {g : Nat → Int64}  : gsY_X11_power_2 NF v f w g = 1 := by
  simp only [gsY_X11_power_2]
def gsY_X11_divisor_1_L1 (NF : Nat) : Nat → (Int32) → (Int32) → Int32
  | 0, _, _ => 0
  | n1 + 1, l2_1, l3_1 =>
    if l3_1 ≤ 0 then
      l2_1
    else
      let t3 : Int32 := l2_1 - l2_1 / l3_1 * l3_1
      gsY_X11_divisor_1_L1 NF n1 l3_1 t3
def gsY_X11_divisor_1 (NF : Nat) (p0 : Int32) (p1 : Int32) (v : Nat → Int32) (f : Nat → Nat → Int32) (w : Int64) (g : Nat → Int64) : Int32 :=
  gsY_X11_divisor_1_L1 NF (4294967296 + NF) p0 p1
theorem gsY_X11_divisor_1_q2 {NF : Nat} {p0 : Int32} {p1 : Int32} {v : Nat → Int32} {f : Nat → Nat → Int32} {w : Int64} {g : Nat → Int64}  : gsY_X11_divisor_1 NF p0 p1 v f w g = gsY_X11_divisor_1_L1 NF (4294967296 + NF) p0 p1 := by
  simp only [gsY_X11_divisor_1]
theorem gsY_X11_divisor_1_q0 {NF : Nat} {n1 : Nat} {l2_1 : Int32} {l3_1 : Int32} (h0 : (l3_1 ≤ 0)) : gsY_X11_divisor_1_L1 NF (n1 + 1) l2_1 l3_1 = l2_1 := by
  simp only [gsY_X11_divisor_1_L1, if_pos h0]
theorem gsY_X11_divisor_1_q1 {NF : Nat} {n1 : Nat} {l2_1 : Int32} {l3_1 : Int32} {t3 : Int32} (h0 : ¬ (l3_1 ≤ 0)) (h1 : t3 = l2_1 - l2_1 / l3_1 * l3_1) : gsY_X11_divisor_1_L1 NF (n1 + 1) l2_1 l3_1 = gsY_X11_divisor_1_L1 NF n1 l3_1 t3 := by
  subst h1
  simp only [gsY_X11_divisor_1_L1, if_neg h0]
def gsY_X11_power_3 (NF : Nat) (v : Nat → Int32) (f : Nat → Nat → Int32) (w : Int64) (g : Nat → Int64) : Int32 :=
  100
theorem gsY_X11_power_3_q0 {NF : Nat} {v : Nat → Int32} {f : Nat → Nat → Int32} {w : Int64} {g : Nat → Int64}  : gsY_X11_power_3 NF v f w g = 100 := by
  simp only [gsY_X11_power_3]
def gsY_X11_power_4 (NF : Nat) (v : Nat → Int32) (f : Nat → Nat → Int32) (w : Int64) (g : Nat → Int64) : Int32 :=
  10000
theorem gsY_X11_power_4_q0 {NF : Nat} {v : Nat → Int32} {f : Nat → Nat → Int32} {w : Int64} {g : Nat → Int64}  : gsY_X11_power_4 NF v f w g = 10000 := by
  simp only [gsY_X11_power_4]
def gsY_X11_power_5 (NF : Nat) (v : Nat → Int32) (f : Nat → Nat → Int32) (w : Int64) (g : Nat → Int64) : Int32 :=
  1000000
theorem gsY_X11_power_5_q0 {NF : Nat} {v : Nat → Int32} {f : Nat → Nat → Int32} {w : Int64} {g : Nat → Int64}  : gsY_X11_power_5 NF v f w g = 1000000 := by
  simp only [gsY_X11_power_5]
def gsY_X11_power_6 (NF : Nat) (v : Nat → Int32) (f : Nat → Nat → Int32) (w : Int64) (g : Nat → Int64) : Int32 :=
  100000000
theorem gsY_X11_power_6_q0 {NF : Nat} {v : Nat → Int32} {f : Nat → Nat → Int32} {w : Int64} {g : Nat → Int64}  : gsY_X11_power_6 NF v f w g = 100000000 := by
  simp only [gsY_X11_power_6]
def gsY_X11_odds_1 (NF : Nat) (p1 : Int32) (p2 : Int32) (v : Nat → Int32) (f : Nat → Nat → Int32) (w : Int64) (g : Nat → Int64) : Int32 :=
  if gsY_X11_isIn_1 NF p1 0 4 v f w g = 1 then
    if gsY_X11_isIn_1 NF p2 0 1 v f w g = 1 then
      let t10 : Int32 := 100 - (v 29)
      let r11 : Int32 := gsY_X11_power_1 NF t10 p1 v f w g
      if p1 = 0 then
        let r14 : Int32 := gsY_X11_power_2 NF v f w g
        let r16 : Int32 := gsY_X11_divisor_1 NF r14 r11 v f w g
        if p2 = 0 then
          let t20 : Int32 := r11 / r16
          t20
        else
          let t19 : Int32 := r14 / r16
          t19
      else
        if p1 = 1 then
          let r22 : Int32 := gsY_X11_power_3 NF v f w g
          let r24 : Int32 := gsY_X11_divisor_1 NF r22 r11 v f w g
          if p2 = 0 then
            let t28 : Int32 := r11 / r24
            t28
          else
            let t27 : Int32 := r22 / r24
            t27
        else
          if p1 = 2 then
            let r30 : Int32 := gsY_X11_power_4 NF v f w g
            let r32 : Int32 := gsY_X11_divisor_1 NF r30 r11 v f w g
            if p2 = 0 then
              let t36 : Int32 := r11 / r32
              t36
            else
              let t35 : Int32 := r30 / r32
              t35
          else
            if p1 = 3 then
              let r38 : Int32 := gsY_X11_power_5 NF v f w g
              let r40 : Int32 := gsY_X11_divisor_1 NF r38 r11 v f w g
              if p2 = 0 then
                let t44 : Int32 := r11 / r40
                t44
              else
                let t43 : Int32 := r38 / r40
                t43
            else
              if p1 = 4 then
                let r46 : Int32 := gsY_X11_power_6 NF v f w g
                let r48 : Int32 := gsY_X11_divisor_1 NF r46 r11 v f w g
                if p2 = 0 then
                  let t52 : Int32 := r11 / r48
                  t52
                else
                  let t51 : Int32 := r46 / r48
                  t51
              else
                0
    else
      (-1)
  else
    (-1)
theorem gsY_X11_odds_1_q0 {NF : Nat} {p1 : Int32} {p2 : Int32} {v : Nat → Int32} {f : Nat → Nat → Int32} {w : Int64} {g : Nat → Int64} {t10 : Int32} {r11 : Int32} {r14 : Int32} {r16 : Int32} {t19 : Int32} (h0 : gsY_X11_isIn_1 NF p1 0 4 v f w g = 1) (h1 : gsY_X11_isIn_1 NF p2 0 1 v f w g = 1) (h2 : t10 = 100 - (v 29)) (h3 : r11 = gsY_X11_power_1 NF t10 p1 v f w g) (h4 : (p1 = 0)) (h5 : r14 = gsY_X11_power_2 NF v f w g) (h6 : r16 = gsY_X11_divisor_1 NF r14 r11 v f w g) (h7 : ¬ (p2 = 0)) (h8 : t19 = r14 / r16) : gsY_X11_odds_1 NF p1 p2 v f w g = t19 := by
  subst h2 h3 h5 h6 h8
  simp only [gsY_X11_odds_1, h0, h1, if_pos h4, if_neg h7, ite11, ite01, if_true, if_false]
theorem gsY_X11_odds_1_q1 {NF : Nat} {p1 : Int32} {p2 : Int32} {v : Nat → Int32} {f : Nat → Nat → Int32} {w : Int64} {g : Nat → Int64} {t10 : Int32} {r11 : Int32} {r14 : Int32} {r16 : Int32} {t20 : Int32} (h0 : gsY_X11_isIn_1 NF p1 0 4 v f w g = 1) (h1 : gsY_X11_isIn_1 NF p2 0 1 v f w g = 1) (h2 : t10 = 100 - (v 29)) (h3 : r11 = gsY_X11_power_1 NF t10 p1 v f w g) (h4 : (p1 = 0)) (h5 : r14 = gsY_X11_power_2 NF v f w g) (h6 : r16 = gsY_X11_divisor_1 NF r14 r11 v f w g) (h7 : (p2 = 0)) (h8 : t20 = r11 / r16) : gsY_X11_odds_1 NF p1 p2 v f w g = t20 := by
  subst h2 h3 h5 h6 h8
  simp only [gsY_X11_odds_1, h0, h1, if_pos h4, if_pos h7, ite11, ite01, if_true, if_false]
theorem gsY_X11_odds_1_q2 {NF : Nat} {p1 : Int32} {p2 : Int32} {v : Nat → Int32} {f : Nat → Nat → Int32} {w : Int64} {g : Nat → Int64} {t10 : Int32} {r11 : Int32} {r22 : Int32} {r24 : Int32} {t27 : Int32} (h0 : gsY_X11_isIn_1 NF p1 0 4 v f w g = 1) (h1 : gsY_X11_isIn_1 NF p2 0 1 v f w g = 1) (h2 : t10 = 100 - (v 29)) (h3 : r11 = gsY_X11_power_1 NF t10 p1 v f w g) (h4 : ¬ (p1 = 0)) (h5 : (p1 = 1)) (h6 : r22 = gsY_X11_power_3 NF v f w g) (h7 : r24 = gsY_X11_divisor_1 NF r22 r11 v f w g) (h8 : ¬ (p2 = 0)) (h9 : t27 = r22 / r24) : gsY_X11_odds_1 NF p1 p2 v f w g = t27 := by
  subst h2 h3 h6 h7 h9
  simp only [gsY_X11_odds_1, h0, h1, if_neg h4, if_pos h5, if_neg h8, ite11, ite01, if_true, if_false]
theorem gsY_X11_odds_1_q3 {NF : Nat} {p1 : Int32} {p2 : Int32} {v : Nat → Int32} {f : Nat → Nat → Int32} {w : Int64} {g : Nat → Int64} {t10 : Int32} {r11 : Int32} {r22 : Int32} {r24 : Int32} {t28 : Int32} (h0 : gsY_X11_isIn_1 NF p1 0 4 v f w g = 1) (h1 : gsY_X11_isIn_1 NF p2 0 1 v f w g = 1) (h2 : t10 = 100 - (v 29)) (h3 : r11 = gsY_X11_power_1 NF t10 p1 v f w g) (h4 : ¬ (p1 = 0)) (h5 : (p1 = 1)) (h6 : r22 = gsY_X11_power_3 NF v f w g) (h7 : r24 = gsY_X11_divisor_1 NF r22 r11 v f w g) (h8 : (p2 = 0)) (h9 : t28 = r11 / r24) : gsY_X11_odds_1 NF p1 p2 v f w g = t28 := by
  subst h2 h3 h6 h7 h9
  simp only [gsY_X11_odds_1, h0, h1, if_neg h4, if_pos h5, if_pos h8, ite11, ite01, if_true, if_false]
theorem gsY_X11_odds_1_q4 {NF : Nat} {p1 : Int32} {p2 : Int32} {v : Nat → Int32} {f : Nat → Nat → Int32} {w : Int64} {g : Nat → Int64} {t10 : Int32} {r11 : Int32} {r30 : Int32} {r32 : Int32} {t35 : Int32} (h0 : gsY_X11_isIn_1 NF p1 0 4 v f w g = 1) (h1 : gsY_X11_isIn_1 NF p2 0 1 v f w g = 1) (h2 : t10 = 100 - (v 29)) (h3 : r11 = gsY_X11_power_1 NF t10 p1 v f w g) (h4 : ¬ (p1 = 0)) (h5 : ¬ (p1 = 1)) (h6 : (p1 = 2)) (h7 : r30 = gsY_X11_power_4 NF v f w g) (h8 : r32 = gsY_X11_divisor_1 NF r30 r11 v f w g) (h9 : ¬ (p2 = 0)) (h10 : t35 = r30 / r32) : gsY_X11_odds_1 NF p1 p2 v f w g = t35 := by
  subst h2 h3 h7 h8 h10
  simp only [gsY_X11_odds_1, h0, h1, if_neg h4, if_neg h5, if_pos h6, if_neg h9, ite11, ite01, if_true, if_false]
theorem gsY_X11_odds_1_q5 {NF : Nat} {p1 : Int32} {p2 : Int32} {v : Nat → Int32} {f : Nat → Nat → Int32} {w : Int64} {g : Nat → Int64} {t10 : Int32} {r11 : Int32} {r30 : Int32} {r32 : Int32} {t36 : Int32} (h0 : gsY_X11_isIn_1 NF p1 0 4 v f w g = 1) (h1 : gsY_X11_isIn_1 NF p2 0 1 v f w g = 1) (h2 : t10 = 100 - (v 29)) (h3 : r11 = gsY_X11_power_1 NF t10 p1 v f w g) (h4 : ¬ (p1 = 0)) (h5 : ¬ (p1 = 1)) (h6 : (p1 = 2)) (h7 : r30 = gsY_X11_power_4 NF v f w g) (h8 : r32 = gsY_X11_divisor_1 NF r30 r11 v f w g) (h9 : (p2 = 0)) (h10 : t36 = r11 / r32) : gsY_X11_odds_1 NF p1 p2 v f w g = t36 := by
  subst h2 h3 h7 h8 h10
  simp only [gsY_X11_odds_1, h0, h1, if_neg h4, if_neg h5, if_pos h6, if_pos h9, ite11, ite01, if_true, if_false]
theorem gsY_X11_odds_1_q6 {NF : Nat} {p1 : Int32} {p2 : Int32} {v : Nat → Int32} {f : Nat → Nat → Int32} {w : Int64} {g : Nat → Int64} {t10 : Int32} {r11 : Int32} {r38 : Int32} {r40 : Int32} {t43 : Int32} (h0 : gsY_X11_isIn_1 NF p1 0 4 v f w g = 1) (h1 : gsY_X11_isIn_1 NF p2 0 1 v f w g = 1) (h2 : t10 = 100 - (v 29)) (h3 : r11 = gsY_X11_power_1 NF t10 p1 v f w g) (h4 : ¬ (p1 = 0)) (h5 : ¬ (p1 = 1)) (h6 : ¬ (p1 = 2)) (h7 : (p1 = 3)) (h8 : r38 = gsY_X11_power_5 NF v f w g) (h9 : r40 = gsY_X11_divisor_1 NF r38 r11 v f w g) (h10 : ¬ (p2 = 0)) (h11 : t43 = r38 / r40) : gsY_X11_odds_1 NF p1 p2 v f w g = t43 := by
  subst h2 h3 h8 h9 h11
  simp only [gsY_X11_odds_1, h0, h1, if_neg h4, if_neg h5, if_neg h6, if_pos h7, if_neg h10, ite11, ite01, if_true, if_false]
theorem gsY_X11_odds_1_q7 {NF : Nat} {p1 : Int32} {p2 : Int32} {v : Nat → Int32} {f : Nat → Nat → Int32} {w : Int64} {g : Nat → Int64} {t10 : Int32} {r11 : Int32} {r38 : Int32} {r40 : Int32} {t44 : Int32} (h0 : gsY_X11_isIn_1 NF p1 0 4 v f w g = 1) (h1 : gsY_X11_isIn_1 NF p2 0 1 v f w g = 1) (h2 : t10 = 100 - (v 29)) (h3 : r11 = gsY_X11_power_1 NF t10 p1 v f w g) (h4 : ¬ (p1 = 0)) (h5 : ¬ (p1 = 1)) (h6 : ¬ (p1 = 2)) (h7 : (p1 = 3)) (h8 : r38 = gsY_X11_power_5 NF v f w g) (h9 : r40 = gsY_X11_divisor_1 NF r38 r11 v f w g) (h10 : (p2 = 0)) (h11 : t44 = r11 / r40) : gsY_X11_odds_1 NF p1 p2 v f w g = t44 := by
  subst h2 h3 h8 h9 h11
  simp only [gsY_X11_odds_1, h0, h1, if_neg h4, if_neg h5, if_neg h6, if_pos h7, if_pos h10, ite11, ite01, if_true, if_false]
theorem gsY_X11_odds_1_q8 {NF : Nat} {p1 : Int32} {p2 : Int32} {v : Nat → Int32} {f : Nat → Nat → Int32} {w : Int64} {g : Nat → Int64} {t10 : Int32} {r11 : Int32} {r46 : Int32} {r48 : Int32} {t51 : Int32} (h0 : gsY_X11_isIn_1 NF p1 0 4 v f w g = 1) (h1 : gsY_X11_isIn_1 NF p2 0 1 v f w g = 1) (h2 : t10 = 100 - (v 29)) (h3 : r11 = gsY_X11_power_1 NF t10 p1 v f w g) (h4 : ¬ (p1 = 0)) (h5 : ¬ (p1 = 1)) (h6 : ¬ (p1 = 2)) (h7 : ¬ (p1 = 3)) (h8 : (p1 = 4)) (h9 : r46 = gsY_X11_power_6 NF v f w g) (h10 : r48 = gsY_X11_divisor_1 NF r46 r11 v f w g) (h11 : ¬ (p2 = 0)) (h12 : t51 = r46 / r48) : gsY_X11_odds_1 NF p1 p2 v f w g = t51 := by
  subst h2 h3 h9 h10 h12
  simp only [gsY_X11_odds_1, h0, h1, if_neg h4, if_neg h5, if_neg h6, if_neg h7, if_pos h8, if_neg h11, ite11, ite01, if_true, if_false]
theorem gsY_X11_odds_1_q9 {NF : Nat} {p1 : Int32} {p2 : Int32} {v : Nat → Int32} {f : Nat → Nat → Int32} {w : Int64} {g : Nat → Int64} {t10 : Int32} {r11 : Int32} {r46 : Int32} {r48 : Int32} {t52 : Int32} (h0 : gsY_X11_isIn_1 NF p1 0 4 v f w g = 1) (h1 : gsY_X11_isIn_1 NF p2 0 1 v f w g = 1) (h2 : t10 = 100 - (v 29)) (h3 : r11 = gsY_X11_power_1 NF t10 p1 v f w g) (h4 : ¬ (p1 = 0)) (h5 : ¬ (p1 = 1)) (h6 : ¬ (p1 = 2)) (h7 : ¬ (p1 = 3)) (h8 : (p1 = 4)) (h9 : r46 = gsY_X11_power_6 NF v f w g) (h10 : r48 = gsY_X11_divisor_1 NF r46 r11 v f w g) (h11 : (p2 = 0)) (h12 : t52 = r11 / r48) : gsY_X11_odds_1 NF p1 p2 v f w g = t52 := by
  subst h2 h3 h9 h10 h12
  simp only [gsY_X11_odds_1, h0, h1, if_neg h4, if_neg h5, if_neg h6, if_neg h7, if_pos h8, if_pos h11, ite11, ite01, if_true, if_false]
theorem gsY_X11_odds_1_q10 {NF : Nat} {p1 : Int32} {p2 : Int32} {v : Nat → Int32} {f : Nat → Nat → Int32} {w : Int64} {g : Nat → Int64} (h0 : gsY_X11_isIn_1 NF p1 0 4 v f w g = 1) (h1 : gsY_X11_isIn_1 NF p2 0 1 v f w g = 0) : gsY_X11_odds_1 NF p1 p2 v f w g = (-1) := by
  simp only [gsY_X11_odds_1, h0, h1, ite11, ite01, if_true, if_false]
theorem gsY_X11_odds_1_q11 {NF : Nat} {p1 : Int32} {p2 : Int32} {v : Nat → Int32} {f : Nat → Nat → Int32} {w : Int64} {g : Nat → Int64} (h0 : gsY_X11_isIn_1 NF p1 0 4 v f w g = 0) : gsY_X11_odds_1 NF p1 p2 v f w g = (-1) := by
  simp only [gsY_X11_odds_1, h0, ite11, ite01, if_true, if_false]
def gsY_X11_fill_1_L1 (NF : Nat) : Nat → (Int32) → (Nat → Int32) → (Nat → Nat → Int32) → (Int64) → (Nat → Int64) → (Nat → Int32) × (Nat → Nat → Int32) × (Int64) × (Nat → Int64)
  | 0, _, _, _, _, _ => ((fun _ => 0), (fun _ _ => 0), 0, (fun _ => 0))
  | n1 + 1, l1_1, v1, f1, w1, g1 =>
    if 39 ≤ l1_1 then
      (v1, f1, w1, g1)
    else
      let t3 : Int32 := f1 23 (l1_1).toNatClampNeg
      let f4 : Nat → Nat → Int32 := upd2 f1 24 (upd (f1 24) l1_1.toNatClampNeg t3)
      let t5 : Int32 := l1_1 + 1
      gsY_X11_fill_1_L1 NF n1 t5 v1 f4 w1 g1
def gsY_X11_fill_1 (NF : Nat) (v : Nat → Int32) (f : Nat → Nat → Int32) (w : Int64) (g : Nat → Int64) : (Nat → Int32) × (Nat → Nat → Int32) × (Int64) × (Nat → Int64) :=
  gsY_X11_fill_1_L1 NF (4294967296 + NF) 0 v f w g
theorem gsY_X11_fill_1_q2 {NF : Nat} {v : Nat → Int32} {f : Nat → Nat → Int32} {w : Int64} {g : Nat → Int64}  : gsY_X11_fill_1 NF v f w g = gsY_X11_fill_1_L1 NF (4294967296 + NF) 0 v f w g := by
  simp only [gsY_X11_fill_1]
theorem gsY_X11_fill_1_q0 {NF : Nat} {n1 : Nat} {l1_1 : Int32} {v1 : Nat → Int32} {f1 : Nat → Nat → Int32} {w1 : Int64} {g1 : Nat → Int64} (h0 : (39 ≤ l1_1)) : gsY_X11_fill_1_L1 NF (n1 + 1) l1_1 v1 f1 w1 g1 = (v1, f1, w1, g1) := by
  simp only [gsY_X11_fill_1_L1, if_pos h0]
theorem gsY_X11_fill_1_q1 {NF : Nat} {n1 : Nat} {l1_1 : Int32} {v1 : Nat → Int32} {f1 : Nat → Nat → Int32} {w1 : Int64} {g1 : Nat → Int64} {t3 : Int32} {f4 : Nat → Nat → Int32} {t5 : Int32} (h0 : ¬ (39 ≤ l1_1)) (h1 : t3 = f1 23 (l1_1).toNatClampNeg) (h2 : f4 = upd2 f1 24 (upd (f1 24) l1_1.toNatClampNeg t3)) (h3 : t5 = l1_1 + 1) : gsY_X11_fill_1_L1 NF (n1 + 1) l1_1 v1 f1 w1 g1 = gsY_X11_fill_1_L1 NF n1 t5 v1 f4 w1 g1 := by
  subst h1 h2 h3
  simp only [gsY_X11_fill_1_L1, if_neg h0]
def gsY_X11_isMan_1 (NF : Nat) (p1 : Int32) (v : Nat → Int32) (f : Nat → Nat → Int32) (w : Int64) (g : Nat → Int64) : Int32 :=
  let t1 : Int32 := (v 24) - 1
  if gsY_X11_isIn_1 NF p1 0 t1 v f w g = 1 then
    1
  else
    0
theorem gsY_X11_isMan_1_q0 {NF : Nat} {p1 : Int32} {v : Nat → Int32} {f : Nat → Nat → Int32} {w : Int64} {g : Nat → Int64} {t1 : Int32} (h0 : t1 = (v 24) - 1) (h1 : gsY_X11_isIn_1 NF p1 0 t1 v f w g = 1) : gsY_X11_isMan_1 NF p1 v f w g = 1 := by
  subst h0
  simp only [gsY_X11_isMan_1, h1, ite11, ite01, if_true, if_false]
theorem gsY_X11_isMan_1_q1 {NF : Nat} {p1 : Int32} {v : Nat → Int32} {f : Nat → Nat → Int32} {w : Int64} {g : Nat → Int64} {t1 : Int32} (h0 : t1 = (v 24) - 1) (h1 : gsY_X11_isIn_1 NF p1 0 t1 v f w g = 0) : gsY_X11_isMan_1 NF p1 v f w g = 0 := by
  subst h0
  simp only [gsY_X11_isMan_1, h1, ite11, ite01, if_true, if_false]
