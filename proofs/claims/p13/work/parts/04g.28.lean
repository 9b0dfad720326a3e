def gsY_X11_end_1 (NF : Nat) (p1 : Int32) (v : Nat → Int32) (f : Nat → Nat → Int32) (w : Int64) (g : Nat → Int64) : Int32 × (Nat → Int32) × (Nat → Nat → Int32) × (Int64) × (Nat → Int64) :=
  if p1 < 0 then
    ((-1), v, f, w, g)
  else
    if p1 ≤ (v 0) then
      (p1, (upd v 0 p1), f, w, g)
    else
      ((-1), v, f, w, g)
theorem gsY_X11_end_1_q0 {NF : Nat} {p1 : Int32} {v : Nat → Int32} {f : Nat → Nat → Int32} {w : Int64} {g : Nat → Int64} (h0 : (p1 < 0)) : gsY_X11_end_1 NF p1 v f w g = ((-1), v, f, w, g) := by
  simp only [gsY_X11_end_1, if_pos h0]
theorem gsY_X11_end_1_q1 {NF : Nat} {p1 : Int32} {v : Nat → Int32} {f : Nat → Nat → Int32} {w : Int64} {g : Nat → Int64} (h0 : ¬ (p1 < 0)) (h1 : (p1 ≤ (v 0))) : gsY_X11_end_1 NF p1 v f w g = (p1, (upd v 0 p1), f, w, g) := by
  simp only [gsY_X11_end_1, if_neg h0, if_pos h1]
theorem gsY_X11_end_1_q2 {NF : Nat} {p1 : Int32} {v : Nat → Int32} {f : Nat → Nat → Int32} {w : Int64} {g : Nat → Int64} (h0 : ¬ (p1 < 0)) (h1 : ¬ (p1 ≤ (v 0))) : gsY_X11_end_1 NF p1 v f w g = ((-1), v, f, w, g) := by
  simp only [gsY_X11_end_1, if_neg h0, if_neg h1]
def gsY_X11_fault_1 (NF : Nat) (p1 : Int32) (v : Nat → Int32) (f : Nat → Nat → Int32) (w : Int64) (g : Nat → Int64) : Int32 :=
  if p1 = 0 then
    (v 1)
  else
    if p1 = 1 then
      (v 2)
    else
      (-1)
theorem gsY_X11_fault_1_q0 {NF : Nat} {p1 : Int32} {v : Nat → Int32} {f : Nat → Nat → Int32} {w : Int64} {g : Nat → Int64} (h0 : ¬ (p1 = 0)) (h1 : ¬ (p1 = 1)) : gsY_X11_fault_1 NF p1 v f w g = (-1) := by
  simp only [gsY_X11_fault_1, if_neg h0, if_neg h1]
theorem gsY_X11_fault_1_q1 {NF : Nat} {p1 : Int32} {v : Nat → Int32} {f : Nat → Nat → Int32} {w : Int64} {g : Nat → Int64} (h0 : ¬ (p1 = 0)) (h1 : (p1 = 1)) : gsY_X11_fault_1 NF p1 v f w g = (v 2) := by
  simp only [gsY_X11_fault_1, if_neg h0, if_pos h1]
theorem gsY_X11_fault_1_q2 {NF : Nat} {p1 : Int32} {v : Nat → Int32} {f : Nat → Nat → Int32} {w : Int64} {g : Nat → Int64} (h0 : (p1 = 0)) : gsY_X11_fault_1 NF p1 v f w g = (v 1) := by
  simp only [gsY_X11_fault_1, if_pos h0]
def gsY_X11_here_1 (NF : Nat) (p1 : Int32) (v : Nat → Int32) (f : Nat → Nat → Int32) (w : Int64) (g : Nat → Int64) : Int32 :=
  let t1 : Int32 := (v 3) + p1
  if (v 4) ≤ t1 then
    (-1)
  else
    let t9 : Int32 := f 0 (t1).toNatClampNeg
    t9
theorem gsY_X11_here_1_q0 {NF : Nat} {p1 : Int32} {v : Nat → Int32} {f : Nat → Nat → Int32} {w : Int64} {g : Nat → Int64} {t1 : Int32} (h0 : t1 = (v 3) + p1) (h1 : ((v 4) ≤ t1)) : gsY_X11_here_1 NF p1 v f w g = (-1) := by
  subst h0
  simp only [gsY_X11_here_1, if_pos h1]
theorem gsY_X11_here_1_q1 {NF : Nat} {p1 : Int32} {v : Nat → Int32} {f : Nat → Nat → Int32} {w : Int64} {g : Nat → Int64} {t1 : Int32} {t9 : Int32} (h0 : t1 = (v 3) + p1) (h1 : ¬ ((v 4) ≤ t1)) (h2 : t9 = f 0 (t1).toNatClampNeg) : gsY_X11_here_1 NF p1 v f w g = t9 := by
  subst h0 h2
  simp only [gsY_X11_here_1, if_neg h1]
def gsY_X11_isLetter_1 (NF : Nat) (p0 : Int32) (v : Nat → Int32) (f : Nat → Nat → Int32) (w : Int64) (g : Nat → Int64) : Int32 :=
  if p0 < 97 then
    0
  else
    if 122 < p0 then
      0
    else
      1
theorem gsY_X11_isLetter_1_q0 {NF : Nat} {p0 : Int32} {v : Nat → Int32} {f : Nat → Nat → Int32} {w : Int64} {g : Nat → Int64} (h0 : (p0 < 97)) : gsY_X11_isLetter_1 NF p0 v f w g = 0 := by
  simp only [gsY_X11_isLetter_1, if_pos h0]
theorem gsY_X11_isLetter_1_q1 {NF : Nat} {p0 : Int32} {v : Nat → Int32} {f : Nat → Nat → Int32} {w : Int64} {g : Nat → Int64} (h0 : ¬ (p0 < 97)) (h1 : (122 < p0)) : gsY_X11_isLetter_1 NF p0 v f w g = 0 := by
  simp only [gsY_X11_isLetter_1, if_neg h0, if_pos h1]
theorem gsY_X11_isLetter_1_q2 {NF : Nat} {p0 : Int32} {v : Nat → Int32} {f : Nat → Nat → Int32} {w : Int64} {g : Nat → Int64} (h0 : ¬ (p0 < 97)) (h1 : ¬ (122 < p0)) : gsY_X11_isLetter_1 NF p0 v f w g = 1 := by
  simp only [gsY_X11_isLetter_1, if_neg h0, if_neg h1]
def gsY_X11_isDigit_1 (NF : Nat) (p0 : Int32) (v : Nat → Int32) (f : Nat → Nat → Int32) (w : Int64) (g : Nat → Int64) : Int32 :=
  if p0 < 48 then
    0
  else
    if 57 < p0 then
      0
    else
      1
theorem gsY_X11_isDigit_1_q0 {NF : Nat} {p0 : Int32} {v : Nat → Int32} {f : Nat → Nat → Int32} {w : Int64} {g : Nat → Int64} (h0 : (p0 < 48)) : gsY_X11_isDigit_1 NF p0 v f w g = 0 := by
  simp only [gsY_X11_isDigit_1, if_pos h0]
theorem gsY_X11_isDigit_1_q1 {NF : Nat} {p0 : Int32} {v : Nat → Int32} {f : Nat → Nat → Int32} {w : Int64} {g : Nat → Int64} (h0 : ¬ (p0 < 48)) (h1 : (57 < p0)) : gsY_X11_isDigit_1 NF p0 v f w g = 0 := by
  simp only [gsY_X11_isDigit_1, if_neg h0, if_pos h1]
theorem gsY_X11_isDigit_1_q2 {NF : Nat} {p0 : Int32} {v : Nat → Int32} {f : Nat → Nat → Int32} {w : Int64} {g : Nat → Int64} (h0 : ¬ (p0 < 48)) (h1 : ¬ (57 < p0)) : gsY_X11_isDigit_1 NF p0 v f w g = 1 := by
  simp only [gsY_X11_isDigit_1, if_neg h0, if_neg h1]
def gsY_X11_isSign_1 (NF : Nat) (p0 : Int32) (v : Nat → Int32) (f : Nat → Nat → Int32) (w : Int64) (g : Nat → Int64) : Int32 :=
  if p0 = 59 then
    1
  else
    if p0 = 40 then
      1
    else
      if p0 = 41 then
        1
      else
        if p0 = 60 then
          1
        else
          if p0 = 62 then
            1
          else
            if p0 = 61 then
              1
            else
              if p0 = 43 then
                1
              else
                if p0 = 45 then
                  1
                else
                  if p0 = 42 then
                    1
                  else
                    if p0 = 47 then
                      1
                    else
                      if p0 = 37 then
                        1
                      else
                        0
theorem gsY_X11_isSign_1_q0 {NF : Nat} {p0 : Int32} {v : Nat → Int32} {f : Nat → Nat → Int32} {w : Int64} {g : Nat → Int64} (h0 : (p0 = 59)) : gsY_X11_isSign_1 NF p0 v f w g = 1 := by
  simp only [gsY_X11_isSign_1, if_pos h0]
theorem gsY_X11_isSign_1_q1 {NF : Nat} {p0 : Int32} {v : Nat → Int32} {f : Nat → Nat → Int32} {w : Int64} {g : Nat → Int64} (h0 : ¬ (p0 = 59)) (h1 : (p0 = 40)) : gsY_X11_isSign_1 NF p0 v f w g = 1 := by
  simp only [gsY_X11_isSign_1, if_neg h0, if_pos h1]
theorem gsY_X11_isSign_1_q2 {NF : Nat} {p0 : Int32} {v : Nat → Int32} {f : Nat → Nat → Int32} {w : Int64} {g : Nat → Int64} (h0 : ¬ (p0 = 59)) (h1 : ¬ (p0 = 40)) (h2 : (p0 = 41)) : gsY_X11_isSign_1 NF p0 v f w g = 1 := by
  simp only [gsY_X11_isSign_1, if_neg h0, if_neg h1, if_pos h2]
theorem gsY_X11_isSign_1_q3 {NF : Nat} {p0 : Int32} {v : Nat → Int32} {f : Nat → Nat → Int32} {w : Int64} {g : Nat → Int64} (h0 : ¬ (p0 = 59)) (h1 : ¬ (p0 = 40)) (h2 : ¬ (p0 = 41)) (h3 : (p0 = 60)) : gsY_X11_isSign_1 NF p0 v f w g = 1 := by
  simp only [gsY_X11_isSign_1, if_neg h0, if_neg h1, if_neg h2, if_pos h3]
theorem gsY_X11_isSign_1_q4 {NF : Nat} {p0 : Int32} {v : Nat → Int32} {f : Nat → Nat → Int32} {w : Int64} {g : Nat → Int64} (h0 : ¬ (p0 = 59)) (h1 : ¬ (p0 = 40)) (h2 : ¬ (p0 = 41)) (h3 : ¬ (p0 = 60)) (h4 : (p0 = 62)) : gsY_X11_isSign_1 NF p0 v f w g = 1 := by
  simp only [gsY_X11_isSign_1, if_neg h0, if_neg h1, if_neg h2, if_neg h3, if_pos h4]
theorem gsY_X11_isSign_1_q5 {NF : Nat} {p0 : Int32} {v : Nat → Int32} {f : Nat → Nat → Int32} {w : Int64} {g : Nat → Int64} (h0 : ¬ (p0 = 59)) (h1 : ¬ (p0 = 40)) (h2 : ¬ (p0 = 41)) (h3 : ¬ (p0 = 60)) (h4 : ¬ (p0 = 62)) (h5 : (p0 = 61)) : gsY_X11_isSign_1 NF p0 v f w g = 1 := by
  simp only [gsY_X11_isSign_1, if_neg h0, if_neg h1, if_neg h2, if_neg h3, if_neg h4, if_pos h5]
theorem gsY_X11_isSign_1_q6 {NF : Nat} {p0 : Int32} {v : Nat → Int32} {f : Nat → Nat → Int32} {w : Int64} {g : Nat → Int64} (h0 : ¬ (p0 = 59)) (h1 : ¬ (p0 = 40)) (h2 : ¬ (p0 = 41)) (h3 : ¬ (p0 = 60)) (h4 : ¬ (p0 = 62)) (h5 : ¬ (p0 = 61)) (h6 : (p0 = 43)) : gsY_X11_isSign_1 NF p0 v f w g = 1 := by
  simp only [gsY_X11_isSign_1, if_neg h0, if_neg h1, if_neg h2, if_neg h3, if_neg h4, if_neg h5, if_pos h6]
theorem gsY_X11_isSign_1_q7 {NF : Nat} {p0 : Int32} {v : Nat → Int32} {f : Nat → Nat → Int32} {w : Int64} {g : Nat → Int64} (h0 : ¬ (p0 = 59)) (h1 : ¬ (p0 = 40)) (h2 : ¬ (p0 = 41)) (h3 : ¬ (p0 = 60)) (h4 : ¬ (p0 = 62)) (h5 : ¬ (p0 = 61)) (h6 : ¬ (p0 = 43)) (h7 : (p0 = 45)) : gsY_X11_isSign_1 NF p0 v f w g = 1 := by
  simp only [gsY_X11_isSign_1, if_neg h0, if_neg h1, if_neg h2, if_neg h3, if_neg h4, if_neg h5, if_neg h6, if_pos h7]
theorem gsY_X11_isSign_1_q8 {NF : Nat} {p0 : Int32} {v : Nat → Int32} {f : Nat → Nat → Int32} {w : Int64} {g : Nat → Int64} (h0 : ¬ (p0 = 59)) (h1 : ¬ (p0 = 40)) (h2 : ¬ (p0 = 41)) (h3 : ¬ (p0 = 60)) (h4 : ¬ (p0 = 62)) (h5 : ¬ (p0 = 61)) (h6 : ¬ (p0 = 43)) (h7 : ¬ (p0 = 45)) (h8 : (p0 = 42)) : gsY_X11_isSign_1 NF p0 v f w g = 1 := by
  simp only [gsY_X11_isSign_1, if_neg h0, if_neg h1, if_neg h2, if_neg h3, if_neg h4, if_neg h5, if_neg h6, if_neg h7, if_pos h8]
theorem gsY_X11_isSign_1_q9 {NF : Nat} {p0 : Int32} {v : Nat → Int32} {f : Nat → Nat → Int32} {w : Int64} {g : Nat → Int64} (h0 : ¬ (p0 = 59)) (h1 : ¬ (p0 = 40)) (h2 : ¬ (p0 = 41)) (h3 : ¬ (p0 = 60)) (h4 : ¬ (p0 = 62)) (h5 : ¬ (p0 = 61)) (h6 : ¬ (p0 = 43)) (h7 : ¬ (p0 = 45)) (h8 : ¬ (p0 = 42)) (h9 : (p0 = 47)) : gsY_X11_isSign_1 NF p0 v f w g = 1 := by
  simp only [gsY_X11_isSign_1, if_neg h0, if_neg h1, if_neg h2, if_neg h3, if_neg h4, if_neg h5, if_neg h6, if_neg h7, if_neg h8, if_pos h9]
theorem gsY_X11_isSign_1_q10 {NF : Nat} {p0 : Int32} {v : Nat → Int32} {f : Nat → Nat → Int32} {w : Int64} {g : Nat → Int64} (h0 : ¬ (p0 = 59)) (h1 : ¬ (p0 = 40)) (h2 : ¬ (p0 = 41)) (h3 : ¬ (p0 = 60)) (h4 : ¬ (p0 = 62)) (h5 : ¬ (p0 = 61)) (h6 : ¬ (p0 = 43)) (h7 : ¬ (p0 = 45)) (h8 : ¬ (p0 = 42)) (h9 : ¬ (p0 = 47)) (h10 : ¬ (p0 = 37)) : gsY_X11_isSign_1 NF p0 v f w g = 0 := by
  simp only [gsY_X11_isSign_1, if_neg h0, if_neg h1, if_neg h2, if_neg h3, if_neg h4, if_neg h5, if_neg h6, if_neg h7, if_neg h8, if_neg h9, if_neg h10]
theorem gsY_X11_isSign_1_q11 {NF : Nat} {p0 : Int32} {v : Nat → Int32} {f : Nat → Nat → Int32} {w : Int64} {g : Nat → Int64} (h0 : ¬ (p0 = 59)) (h1 : ¬ (p0 = 40)) (h2 : ¬ (p0 = 41)) (h3 : ¬ (p0 = 60)) (h4 : ¬ (p0 = 62)) (h5 : ¬ (p0 = 61)) (h6 : ¬ (p0 = 43)) (h7 : ¬ (p0 = 45)) (h8 : ¬ (p0 = 42)) (h9 : ¬ (p0 = 47)) (h10 : (p0 = 37)) : gsY_X11_isSign_1 NF p0 v f w g = 1 := by
  simp only [gsY_X11_isSign_1, if_neg h0, if_neg h1, if_neg h2, if_neg h3, if_neg h4, if_neg h5, if_neg h6, if_neg h7, if_neg h8, if_neg h9, if_pos h10]
def gsY_X11_token_1_L20 (NF : Nat) (v1 : Nat → Int32) : Nat → (Int32) → (Nat → Int32) → (Nat → Nat → Int32) → (Int64) → (Nat → Int64) → (Nat → Int32) × (Nat → Nat → Int32) × (Int64) × (Nat → Int64)
  | 0, _, _, _, _, _ => ((fun _ => 0), (fun _ _ => 0), 0, (fun _ => 0))
  | n20 + 1, l2_20, v20, f20, w20, g20 =>
    let r21 : Int32 := gsY_X11_here_1 NF l2_20 v20 f20 w20 g20
    if gsY_X11_isLetter_1 NF r21 v20 f20 w20 g20 = 1 then
      if 8 ≤ l2_20 then
        let t28 : Int32 := l2_20 + 1
        gsY_X11_token_1_L20 NF v1 n20 t28 v20 f20 w20 g20
      else
        let j31 : Int64 := w20 <<< ((8 : Int32).toInt64 &&& 63)
        let r32 : Int32 := gsY_X11_here_1 NF l2_20 v20 f20 w20 g20
        let j35 : Int64 := r32.toInt64
        let j36 : Int64 := j31 ||| j35
        let t37 : Int32 := l2_20 + 1
        gsY_X11_token_1_L20 NF v1 n20 t37 v20 f20 j36 g20
    else
      if l2_20 ≤ 8 then
        let t41 : Int32 := (v1 3) + l2_20
        ((upd (upd v20 5 1) 3 t41), f20, w20, g20)
      else
        ((upd v20 5 3), f20, w20, g20)
def gsY_X11_token_1_L47 (NF : Nat) (v1 : Nat → Int32) : Nat → (Int32) → (Nat → Int32) → (Nat → Nat → Int32) → (Int64) → (Nat → Int64) → (Nat → Int32) × (Nat → Nat → Int32) × (Int64) × (Nat → Int64)
  | 0, _, _, _, _, _ => ((fun _ => 0), (fun _ _ => 0), 0, (fun _ => 0))
  | n47 + 1, l2_47, v47, f47, w47, g47 =>
    let r48 : Int32 := gsY_X11_here_1 NF l2_47 v47 f47 w47 g47
    if gsY_X11_isDigit_1 NF r48 v47 f47 w47 g47 = 1 then
      if 4 ≤ l2_47 then
        let t55 : Int32 := l2_47 + 1
        gsY_X11_token_1_L47 NF v1 n47 t55 v47 f47 w47 g47
      else
        let t58 : Int32 := 10 * (v47 7)
        let r59 : Int32 := gsY_X11_here_1 NF l2_47 v47 f47 w47 g47
        let t62 : Int32 := t58 + r59
        let t63 : Int32 := t62 - 48
        let t64 : Int32 := l2_47 + 1
        gsY_X11_token_1_L47 NF v1 n47 t64 (upd v47 7 t63) f47 w47 g47
    else
      if 4 < l2_47 then
        ((upd v47 5 3), f47, w47, g47)
      else
        let r68 : Int32 := gsY_X11_here_1 NF l2_47 v47 f47 w47 g47
        if gsY_X11_isLetter_1 NF r68 v47 f47 w47 g47 = 1 then
          ((upd v47 5 3), f47, w47, g47)
        else
          let t74 : Int32 := (v1 3) + l2_47
          ((upd (upd v47 5 2) 3 t74), f47, w47, g47)
def gsY_X11_token_1_L1 (NF : Nat) : Nat → (Nat → Int32) → (Nat → Nat → Int32) → (Int64) → (Nat → Int64) → (Nat → Int32) × (Nat → Nat → Int32) × (Int64) × (Nat → Int64)
  | 0, _, _, _, _ => ((fun _ => 0), (fun _ _ => 0), 0, (fun _ => 0))
  | n1 + 1, v1, f1, w1, g1 =>
    let r3 : Int32 := gsY_X11_here_1 NF 0 v1 f1 w1 g1
    if r3 = 32 then
      let t7 : Int32 := (v1 3) + 1
      gsY_X11_token_1_L1 NF n1 (upd v1 3 t7) f1 w1 g1
    else
      let r9 : Int32 := gsY_X11_here_1 NF 0 v1 f1 w1 g1
      if r9 = 10 then
        let t85 : Int32 := (v1 3) + 1
        gsY_X11_token_1_L1 NF n1 (upd v1 3 t85) f1 w1 g1
      else
        let r13 : Int32 := gsY_X11_here_1 NF 0 (upd v1 6 (v1 3)) f1 w1 g1
        if 0 ≤ r13 then
          if gsY_X11_isLetter_1 NF r13 (upd (upd v1 6 (v1 3)) 7 0) f1 0 g1 = 1 then
            gsY_X11_token_1_L20 NF v1 (4294967296 + NF) 0 (upd (upd v1 6 (v1 3)) 7 0) f1 0 g1
          else
            if gsY_X11_isDigit_1 NF r13 (upd (upd v1 6 (v1 3)) 7 0) f1 0 g1 = 1 then
              gsY_X11_token_1_L47 NF v1 (4294967296 + NF) 0 (upd (upd v1 6 (v1 3)) 7 0) f1 0 g1
            else
              if gsY_X11_isSign_1 NF r13 (upd (upd v1 6 (v1 3)) 7 0) f1 0 g1 = 1 then
                if r13 = 3 then
                  ((upd (upd (upd v1 6 (v1 3)) 7 0) 5 r13), f1, 0, g1)
                else
                  let t81 : Int32 := (v1 3) + 1
                  ((upd (upd (upd (upd v1 6 (v1 3)) 7 0) 5 r13) 3 t81), f1, 0, g1)
              else
                ((upd (upd (upd v1 6 (v1 3)) 7 0) 5 3), f1, 0, g1)
        else
          let t83 : Int32 := (v1 3) + 0
          ((upd (upd (upd (upd v1 6 (v1 3)) 7 0) 5 0) 3 t83), f1, 0, g1)
def gsY_X11_token_1 (NF : Nat) (v : Nat → Int32) (f : Nat → Nat → Int32) (w : Int64) (g : Nat → Int64) : (Nat → Int32) × (Nat → Nat → Int32) × (Int64) × (Nat → Int64) :=
  gsY_X11_token_1_L1 NF (4294967296 + NF) v f w g
theorem gsY_X11_token_1_q17 {NF : Nat} {v : Nat → Int32} {f : Nat → Nat → Int32} {w : Int64} {g : Nat → Int64}  : gsY_X11_token_1 NF v f w g = gsY_X11_token_1_L1 NF (4294967296 + NF) v f w g := by
  simp only [gsY_X11_token_1]
theorem gsY_X11_token_1_q0 {NF : Nat} {n1 : Nat} {v1 : Nat → Int32} {f1 : Nat → Nat → Int32} {w1 : Int64} {g1 : Nat → Int64} {r3 : Int32} {t7 : Int32} (h0 : r3 = gsY_X11_here_1 NF 0 v1 f1 w1 g1) (h1 : (r3 = 32)) (h2 : t7 = (v1 3) + 1) : gsY_X11_token_1_L1 NF (n1 + 1) v1 f1 w1 g1 = gsY_X11_token_1_L1 NF n1 (upd v1 3 t7) f1 w1 g1 := by
  subst h0 h2
  simp only [gsY_X11_token_1_L1, if_pos h1]
theorem gsY_X11_token_1_q5 {NF : Nat} {n1 : Nat} {v1 : Nat → Int32} {f1 : Nat → Nat → Int32} {w1 : Int64} {g1 : Nat → Int64} {r3 : Int32} {r9 : Int32} {r13 : Int32} (h0 : r3 = gsY_X11_here_1 NF 0 v1 f1 w1 g1) (h1 : ¬ (r3 = 32)) (h2 : r9 = gsY_X11_here_1 NF 0 v1 f1 w1 g1) (h3 : ¬ (r9 = 10)) (h4 : r13 = gsY_X11_here_1 NF 0 (upd v1 6 (v1 3)) f1 w1 g1) (h5 : (0 ≤ r13)) (h6 : gsY_X11_isLetter_1 NF r13 (upd (upd v1 6 (v1 3)) 7 0) f1 0 g1 = 1) : gsY_X11_token_1_L1 NF (n1 + 1) v1 f1 w1 g1 = gsY_X11_token_1_L20 NF v1 (4294967296 + NF) 0 (upd (upd v1 6 (v1 3)) 7 0) f1 0 g1 := by
  subst h0 h2 h4
  simp only [gsY_X11_token_1_L1, if_neg h1, if_neg h3, if_pos h5, h6, ite11, ite01, if_true, if_false]
theorem gsY_X11_token_1_q11 {NF : Nat} {n1 : Nat} {v1 : Nat → Int32} {f1 : Nat → Nat → Int32} {w1 : Int64} {g1 : Nat → Int64} {r3 : Int32} {r9 : Int32} {r13 : Int32} (h0 : r3 = gsY_X11_here_1 NF 0 v1 f1 w1 g1) (h1 : ¬ (r3 = 32)) (h2 : r9 = gsY_X11_here_1 NF 0 v1 f1 w1 g1) (h3 : ¬ (r9 = 10)) (h4 : r13 = gsY_X11_here_1 NF 0 (upd v1 6 (v1 3)) f1 w1 g1) (h5 : (0 ≤ r13)) (h6 : gsY_X11_isLetter_1 NF r13 (upd (upd v1 6 (v1 3)) 7 0) f1 0 g1 = 0) (h7 : gsY_X11_isDigit_1 NF r13 (upd (upd v1 6 (v1 3)) 7 0) f1 0 g1 = 1) : gsY_X11_token_1_L1 NF (n1 + 1) v1 f1 w1 g1 = gsY_X11_token_1_L47 NF v1 (4294967296 + NF) 0 (upd (upd v1 6 (v1 3)) 7 0) f1 0 g1 := by
  subst h0 h2 h4
  simp only [gsY_X11_token_1_L1, if_neg h1, if_neg h3, if_pos h5, h6, h7, ite11, ite01, if_true, if_false]
theorem gsY_X11_token_1_q12 {NF : Nat} {n1 : Nat} {v1 : Nat → Int32} {f1 : Nat → Nat → Int32} {w1 : Int64} {g1 : Nat → Int64} {r3 : Int32} {r9 : Int32} {r13 : Int32} (h0 : r3 = gsY_X11_here_1 NF 0 v1 f1 w1 g1) (h1 : ¬ (r3 = 32)) (h2 : r9 = gsY_X11_here_1 NF 0 v1 f1 w1 g1) (h3 : ¬ (r9 = 10)) (h4 : r13 = gsY_X11_here_1 NF 0 (upd v1 6 (v1 3)) f1 w1 g1) (h5 : (0 ≤ r13)) (h6 : gsY_X11_isLetter_1 NF r13 (upd (upd v1 6 (v1 3)) 7 0) f1 0 g1 = 0) (h7 : gsY_X11_isDigit_1 NF r13 (upd (upd v1 6 (v1 3)) 7 0) f1 0 g1 = 0) (h8 : gsY_X11_isSign_1 NF r13 (upd (upd v1 6 (v1 3)) 7 0) f1 0 g1 = 1) (h9 : (r13 = 3)) : gsY_X11_token_1_L1 NF (n1 + 1) v1 f1 w1 g1 = ((upd (upd (upd v1 6 (v1 3)) 7 0) 5 r13), f1, 0, g1) := by
  subst h0 h2 h4
  simp only [gsY_X11_token_1_L1, if_neg h1, if_neg h3, if_pos h5, h6, h7, h8, if_pos h9, ite11, ite01, if_true, if_false]
theorem gsY_X11_token_1_q13 {NF : Nat} {n1 : Nat} {v1 : Nat → Int32} {f1 : Nat → Nat → Int32} {w1 : Int64} {g1 : Nat → Int64} {r3 : Int32} {r9 : Int32} {r13 : Int32} {t81 : Int32} (h0 : r3 = gsY_X11_here_1 NF 0 v1 f1 w1 g1) (h1 : ¬ (r3 = 32)) (h2 : r9 = gsY_X11_here_1 NF 0 v1 f1 w1 g1) (h3 : ¬ (r9 = 10)) (h4 : r13 = gsY_X11_here_1 NF 0 (upd v1 6 (v1 3)) f1 w1 g1) (h5 : (0 ≤ r13)) (h6 : gsY_X11_isLetter_1 NF r13 (upd (upd v1 6 (v1 3)) 7 0) f1 0 g1 = 0) (h7 : gsY_X11_isDigit_1 NF r13 (upd (upd v1 6 (v1 3)) 7 0) f1 0 g1 = 0) (h8 : gsY_X11_isSign_1 NF r13 (upd (upd v1 6 (v1 3)) 7 0) f1 0 g1 = 1) (h9 : ¬ (r13 = 3)) (h10 : t81 = (v1 3) + 1) : gsY_X11_token_1_L1 NF (n1 + 1) v1 f1 w1 g1 = ((upd (upd (upd (upd v1 6 (v1 3)) 7 0) 5 r13) 3 t81), f1, 0, g1) := by
  subst h0 h2 h4 h10
  simp only [gsY_X11_token_1_L1, if_neg h1, if_neg h3, if_pos h5, h6, h7, h8, if_neg h9, ite11, ite01, if_true, if_false]
theorem gsY_X11_token_1_q14 {NF : Nat} {n1 : Nat} {v1 : Nat → Int32} {f1 : Nat → Nat → Int32} {w1 : Int64} {g1 : Nat → Int64} {r3 : Int32} {r9 : Int32} {r13 : Int32} (h0 : r3 = gsY_X11_here_1 NF 0 v1 f1 w1 g1) (h1 : ¬ (r3 = 32)) (h2 : r9 = gsY_X11_here_1 NF 0 v1 f1 w1 g1) (h3 : ¬ (r9 = 10)) (h4 : r13 = gsY_X11_here_1 NF 0 (upd v1 6 (v1 3)) f1 w1 g1) (h5 : (0 ≤ r13)) (h6 : gsY_X11_isLetter_1 NF r13 (upd (upd v1 6 (v1 3)) 7 0) f1 0 g1 = 0) (h7 : gsY_X11_isDigit_1 NF r13 (upd (upd v1 6 (v1 3)) 7 0) f1 0 g1 = 0) (h8 : gsY_X11_isSign_1 NF r13 (upd (upd v1 6 (v1 3)) 7 0) f1 0 g1 = 0) : gsY_X11_token_1_L1 NF (n1 + 1) v1 f1 w1 g1 = ((upd (upd (upd v1 6 (v1 3)) 7 0) 5 3), f1, 0, g1) := by
  subst h0 h2 h4
  simp only [gsY_X11_token_1_L1, if_neg h1, if_neg h3, if_pos h5, h6, h7, h8, ite11, ite01, if_true, if_false]
theorem gsY_X11_token_1_q15 {NF : Nat} {n1 : Nat} {v1 : Nat → Int32} {f1 : Nat → Nat → Int32} {w1 : Int64} {g1 : Nat → Int64} {r3 : Int32} {r9 : Int32} {r13 : Int32} {t83 : Int32} (h0 : r3 = gsY_X11_here_1 NF 0 v1 f1 w1 g1) (h1 : ¬ (r3 = 32)) (h2 : r9 = gsY_X11_here_1 NF 0 v1 f1 w1 g1) (h3 : ¬ (r9 = 10)) (h4 : r13 = gsY_X11_here_1 NF 0 (upd v1 6 (v1 3)) f1 w1 g1) (h5 : ¬ (0 ≤ r13)) (h6 : t83 = (v1 3) + 0) : gsY_X11_token_1_L1 NF (n1 + 1) v1 f1 w1 g1 = ((upd (upd (upd (upd v1 6 (v1 3)) 7 0) 5 0) 3 t83), f1, 0, g1) := by
  subst h0 h2 h4 h6
  simp only [gsY_X11_token_1_L1, if_neg h1, if_neg h3, if_neg h5]
theorem gsY_X11_token_1_q16 {NF : Nat} {n1 : Nat} {v1 : Nat → Int32} {f1 : Nat → Nat → Int32} {w1 : Int64} {g1 : Nat → Int64} {r3 : Int32} {r9 : Int32} {t85 : Int32} (h0 : r3 = gsY_X11_here_1 NF 0 v1 f1 w1 g1) (h1 : ¬ (r3 = 32)) (h2 : r9 = gsY_X11_here_1 NF 0 v1 f1 w1 g1) (h3 : (r9 = 10)) (h4 : t85 = (v1 3) + 1) : gsY_X11_token_1_L1 NF (n1 + 1) v1 f1 w1 g1 = gsY_X11_token_1_L1 NF n1 (upd v1 3 t85) f1 w1 g1 := by
  subst h0 h2 h4
  simp only [gsY_X11_token_1_L1, if_neg h1, if_pos h3]
theorem gsY_X11_token_1_q1 {NF : Nat} {v1 : Nat → Int32} {n20 : Nat} {l2_20 : Int32} {v20 : Nat → Int32} {f20 : Nat → Nat → Int32} {w20 : Int64} {g20 : Nat → Int64} {r21 : Int32} {t28 : Int32} (h0 : r21 = gsY_X11_here_1 NF l2_20 v20 f20 w20 g20) (h1 : gsY_X11_isLetter_1 NF r21 v20 f20 w20 g20 = 1) (h2 : (8 ≤ l2_20)) (h3 : t28 = l2_20 + 1) : gsY_X11_token_1_L20 NF v1 (n20 + 1) l2_20 v20 f20 w20 g20 = gsY_X11_token_1_L20 NF v1 n20 t28 v20 f20 w20 g20 := by
  subst h0 h3
  simp only [gsY_X11_token_1_L20, h1, if_pos h2, ite11, ite01, if_true, if_false]
theorem gsY_X11_token_1_q2 {NF : Nat} {v1 : Nat → Int32} {n20 : Nat} {l2_20 : Int32} {v20 : Nat → Int32} {f20 : Nat → Nat → Int32} {w20 : Int64} {g20 : Nat → Int64} {r21 : Int32} {j31 : Int64} {r32 : Int32} {j35 : Int64} {j36 : Int64} {t37 : Int32} (h0 : r21 = gsY_X11_here_1 NF l2_20 v20 f20 w20 g20) (h1 : gsY_X11_isLetter_1 NF r21 v20 f20 w20 g20 = 1) (h2 : ¬ (8 ≤ l2_20)) (h3 : j31 = w20 <<< ((8 : Int32).toInt64 &&& 63)) (h4 : r32 = gsY_X11_here_1 NF l2_20 v20 f20 w20 g20) (h5 : j35 = r32.toInt64) (h6 : j36 = j31 ||| j35) (h7 : t37 = l2_20 + 1) : gsY_X11_token_1_L20 NF v1 (n20 + 1) l2_20 v20 f20 w20 g20 = gsY_X11_token_1_L20 NF v1 n20 t37 v20 f20 j36 g20 := by
  subst h0 h3 h4 h5 h6 h7
  simp only [gsY_X11_token_1_L20, h1, if_neg h2, ite11, ite01, if_true, if_false]
theorem gsY_X11_token_1_q3 {NF : Nat} {v1 : Nat → Int32} {n20 : Nat} {l2_20 : Int32} {v20 : Nat → Int32} {f20 : Nat → Nat → Int32} {w20 : Int64} {g20 : Nat → Int64} {r21 : Int32} {t41 : Int32} (h0 : r21 = gsY_X11_here_1 NF l2_20 v20 f20 w20 g20) (h1 : gsY_X11_isLetter_1 NF r21 v20 f20 w20 g20 = 0) (h2 : (l2_20 ≤ 8)) (h3 : t41 = (v1 3) + l2_20) : gsY_X11_token_1_L20 NF v1 (n20 + 1) l2_20 v20 f20 w20 g20 = ((upd (upd v20 5 1) 3 t41), f20, w20, g20) := by
  subst h0 h3
  simp only [gsY_X11_token_1_L20, h1, if_pos h2, ite11, ite01, if_true, if_false]
theorem gsY_X11_token_1_q4 {NF : Nat} {v1 : Nat → Int32} {n20 : Nat} {l2_20 : Int32} {v20 : Nat → Int32} {f20 : Nat → Nat → Int32} {w20 : Int64} {g20 : Nat → Int64} {r21 : Int32} (h0 : r21 = gsY_X11_here_1 NF l2_20 v20 f20 w20 g20) (h1 : gsY_X11_isLetter_1 NF r21 v20 f20 w20 g20 = 0) (h2 : ¬ (l2_20 ≤ 8)) : gsY_X11_token_1_L20 NF v1 (n20 + 1) l2_20 v20 f20 w20 g20 = ((upd v20 5 3), f20, w20, g20) := by
  subst h0
  simp only [gsY_X11_token_1_L20, h1, if_neg h2, ite11, ite01, if_true, if_false]
theorem gsY_X11_token_1_q6 {NF : Nat} {v1 : Nat → Int32} {n47 : Nat} {l2_47 : Int32} {v47 : Nat → Int32} {f47 : Nat → Nat → Int32} {w47 : Int64} {g47 : Nat → Int64} {r48 : Int32} {t55 : Int32} (h0 : r48 = gsY_X11_here_1 NF l2_47 v47 f47 w47 g47) (h1 : gsY_X11_isDigit_1 NF r48 v47 f47 w47 g47 = 1) (h2 : (4 ≤ l2_47)) (h3 : t55 = l2_47 + 1) : gsY_X11_token_1_L47 NF v1 (n47 + 1) l2_47 v47 f47 w47 g47 = gsY_X11_token_1_L47 NF v1 n47 t55 v47 f47 w47 g47 := by
  subst h0 h3
  simp only [gsY_X11_token_1_L47, h1, if_pos h2, ite11, ite01, if_true, if_false]
theorem gsY_X11_token_1_q7 {NF : Nat} {v1 : Nat → Int32} {n47 : Nat} {l2_47 : Int32} {v47 : Nat → Int32} {f47 : Nat → Nat → Int32} {w47 : Int64} {g47 : Nat → Int64} {r48 : Int32} {t58 : Int32} {r59 : Int32} {t62 : Int32} {t63 : Int32} {t64 : Int32} (h0 : r48 = gsY_X11_here_1 NF l2_47 v47 f47 w47 g47) (h1 : gsY_X11_isDigit_1 NF r48 v47 f47 w47 g47 = 1) (h2 : ¬ (4 ≤ l2_47)) (h3 : t58 = 10 * (v47 7)) (h4 : r59 = gsY_X11_here_1 NF l2_47 v47 f47 w47 g47) (h5 : t62 = t58 + r59) (h6 : t63 = t62 - 48) (h7 : t64 = l2_47 + 1) : gsY_X11_token_1_L47 NF v1 (n47 + 1) l2_47 v47 f47 w47 g47 = gsY_X11_token_1_L47 NF v1 n47 t64 (upd v47 7 t63) f47 w47 g47 := by
  subst h0 h3 h4 h5 h6 h7
  simp only [gsY_X11_token_1_L47, h1, if_neg h2, ite11, ite01, if_true, if_false]
theorem gsY_X11_token_1_q8 {NF : Nat} {v1 : Nat → Int32} {n47 : Nat} {l2_47 : Int32} {v47 : Nat → Int32} {f47 : Nat → Nat → Int32} {w47 : Int64} {g47 : Nat → Int64} {r48 : Int32} (h0 : r48 = gsY_X11_here_1 NF l2_47 v47 f47 w47 g47) (h1 : gsY_X11_isDigit_1 NF r48 v47 f47 w47 g47 = 0) (h2 : (4 < l2_47)) : gsY_X11_token_1_L47 NF v1 (n47 + 1) l2_47 v47 f47 w47 g47 = ((upd v47 5 3), f47, w47, g47) := by
  subst h0
  simp only [gsY_X11_token_1_L47, h1, if_pos h2, ite11, ite01, if_true, if_false]
theorem gsY_X11_token_1_q9 {NF : Nat} {v1 : Nat → Int32} {n47 : Nat} {l2_47 : Int32} {v47 : Nat → Int32} {f47 : Nat → Nat → Int32} {w47 : Int64} {g47 : Nat → Int64} {r48 : Int32} {r68 : Int32} (h0 : r48 = gsY_X11_here_1 NF l2_47 v47 f47 w47 g47) (h1 : gsY_X11_isDigit_1 NF r48 v47 f47 w47 g47 = 0) (h2 : ¬ (4 < l2_47)) (h3 : r68 = gsY_X11_here_1 NF l2_47 v47 f47 w47 g47) (h4 : gsY_X11_isLetter_1 NF r68 v47 f47 w47 g47 = 1) : gsY_X11_token_1_L47 NF v1 (n47 + 1) l2_47 v47 f47 w47 g47 = ((upd v47 5 3), f47, w47, g47) := by
  subst h0 h3
  simp only [gsY_X11_token_1_L47, h1, if_neg h2, h4, ite11, ite01, if_true, if_false]
theorem gsY_X11_token_1_q10 {NF : Nat} {v1 : Nat → Int32} {n47 : Nat} {l2_47 : Int32} {v47 : Nat → Int32} {f47 : Nat → Nat → Int32} {w47 : Int64} {g47 : Nat → Int64} {r48 : Int32} {r68 : Int32} {t74 : Int32} (h0 : r48 = gsY_X11_here_1 NF l2_47 v47 f47 w47 g47) (h1 : gsY_X11_isDigit_1 NF r48 v47 f47 w47 g47 = 0) (h2 : ¬ (4 < l2_47)) (h3 : r68 = gsY_X11_here_1 NF l2_47 v47 f47 w47 g47) (h4 : gsY_X11_isLetter_1 NF r68 v47 f47 w47 g47 = 0) (h5 : t74 = (v1 3) + l2_47) : gsY_X11_token_1_L47 NF v1 (n47 + 1) l2_47 v47 f47 w47 g47 = ((upd (upd v47 5 2) 3 t74), f47, w47, g47) := by
  subst h0 h3 h5
  simp only [gsY_X11_token_1_L47, h1, if_neg h2, h4, ite11, ite01, if_true, if_false]
