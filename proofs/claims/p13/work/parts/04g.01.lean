def gsX_X9_isDigit_1 (NF : Nat) (p1 : Int32) (v : Nat → Int32) (f : Nat → Nat → Int32) : Int32 :=
  if p1 < 0 then
    0
  else
    if (v 1) ≤ p1 then
      0
    else
      let t7 : Int32 := f 0 (p1).toNatClampNeg
      if t7 < 48 then
        0
      else
        let t9 : Int32 := f 0 (p1).toNatClampNeg
        if 57 < t9 then
          0
        else
          1
theorem gsX_X9_isDigit_1_q0 {NF : Nat} {p1 : Int32} {v : Nat → Int32} {f : Nat → Nat → Int32} (h0 : (p1 < 0)) : gsX_X9_isDigit_1 NF p1 v f = 0 := by
  simp only [gsX_X9_isDigit_1, if_pos h0]
theorem gsX_X9_isDigit_1_q1 {NF : Nat} {p1 : Int32} {v : Nat → Int32} {f : Nat → Nat → Int32} (h0 : ¬ (p1 < 0)) (h1 : ((v 1) ≤ p1)) : gsX_X9_isDigit_1 NF p1 v f = 0 := by
  simp only [gsX_X9_isDigit_1, if_neg h0, if_pos h1]
theorem gsX_X9_isDigit_1_q2 {NF : Nat} {p1 : Int32} {v : Nat → Int32} {f : Nat → Nat → Int32} {t7 : Int32} (h0 : ¬ (p1 < 0)) (h1 : ¬ ((v 1) ≤ p1)) (h2 : t7 = f 0 (p1).toNatClampNeg) (h3 : (t7 < 48)) : gsX_X9_isDigit_1 NF p1 v f = 0 := by
  subst h2
  simp only [gsX_X9_isDigit_1, if_neg h0, if_neg h1, if_pos h3]
theorem gsX_X9_isDigit_1_q3 {NF : Nat} {p1 : Int32} {v : Nat → Int32} {f : Nat → Nat → Int32} {t7 : Int32} {t9 : Int32} (h0 : ¬ (p1 < 0)) (h1 : ¬ ((v 1) ≤ p1)) (h2 : t7 = f 0 (p1).toNatClampNeg) (h3 : ¬ (t7 < 48)) (h4 : t9 = f 0 (p1).toNatClampNeg) (h5 : (57 < t9)) : gsX_X9_isDigit_1 NF p1 v f = 0 := by
  subst h2 h4
  simp only [gsX_X9_isDigit_1, if_neg h0, if_neg h1, if_neg h3, if_pos h5]
theorem gsX_X9_isDigit_1_q4 {NF : Nat} {p1 : Int32} {v : Nat → Int32} {f : Nat → Nat → Int32} {t7 : Int32} {t9 : Int32} (h0 : ¬ (p1 < 0)) (h1 : ¬ ((v 1) ≤ p1)) (h2 : t7 = f 0 (p1).toNatClampNeg) (h3 : ¬ (t7 < 48)) (h4 : t9 = f 0 (p1).toNatClampNeg) (h5 : ¬ (57 < t9)) : gsX_X9_isDigit_1 NF p1 v f = 1 := by
  subst h2 h4
  simp only [gsX_X9_isDigit_1, if_neg h0, if_neg h1, if_neg h3, if_neg h5]
def gsX_J0_isLatin1_aae02_2 (NF : Nat) (v : Nat → Int32) (f : Nat → Nat → Int32) : Int32 :=
  1
theorem gsX_J0_isLatin1_aae02_2_q0 {NF : Nat} {v : Nat → Int32} {f : Nat → Nat → Int32}  : gsX_J0_isLatin1_aae02_2 NF v f = 1 := by
  simp only [gsX_J0_isLatin1_aae02_2]
def gsX_J0_coder_7d493_2 (NF : Nat) (v : Nat → Int32) (f : Nat → Nat → Int32) : Int32 :=
  0
theorem gsX_J0_coder_7d493_2_q0 {NF : Nat} {v : Nat → Int32} {f : Nat → Nat → Int32}  : gsX_J0_coder_7d493_2 NF v f = 0 := by
  simp only [gsX_J0_coder_7d493_2]
def gsX_J0_length_8abf5_2 (NF : Nat) (v : Nat → Int32) (f : Nat → Nat → Int32) : Int32 :=
  11
theorem gsX_J0_length_8abf5_2_q0 {NF : Nat} {v : Nat → Int32} {f : Nat → Nat → Int32}  : gsX_J0_length_8abf5_2 NF v f = 11 := by
  simp only [gsX_J0_length_8abf5_2]
def gsX_J1_canEncode_9a6ad_1 (NF : Nat) (p0 : Int32) (v : Nat → Int32) (f : Nat → Nat → Int32) : Int32 :=
  if p0 < 0 then
    0
  else
    if 255 < p0 then
      0
    else
      1
theorem gsX_J1_canEncode_9a6ad_1_q0 {NF : Nat} {p0 : Int32} {v : Nat → Int32} {f : Nat → Nat → Int32} (h0 : (p0 < 0)) : gsX_J1_canEncode_9a6ad_1 NF p0 v f = 0 := by
  simp only [gsX_J1_canEncode_9a6ad_1, if_pos h0]
theorem gsX_J1_canEncode_9a6ad_1_q1 {NF : Nat} {p0 : Int32} {v : Nat → Int32} {f : Nat → Nat → Int32} (h0 : ¬ (p0 < 0)) (h1 : (255 < p0)) : gsX_J1_canEncode_9a6ad_1 NF p0 v f = 0 := by
  simp only [gsX_J1_canEncode_9a6ad_1, if_neg h0, if_pos h1]
theorem gsX_J1_canEncode_9a6ad_1_q2 {NF : Nat} {p0 : Int32} {v : Nat → Int32} {f : Nat → Nat → Int32} (h0 : ¬ (p0 < 0)) (h1 : ¬ (255 < p0)) : gsX_J1_canEncode_9a6ad_1 NF p0 v f = 1 := by
  simp only [gsX_J1_canEncode_9a6ad_1, if_neg h0, if_neg h1]
def gsX_J1_indexOfChar_4cfef_1_L2 (NF : Nat) (p3 : Int32) (t1 : Int32) : Nat → (Int32) → Int32
  | 0, _ => 0
  | n2 + 1, l5_2 =>
    if p3 ≤ l5_2 then
      (-1)
    else
      let t8 : Int32 := (sBYT.getD 0 []).getD (l5_2).toNatClampNeg 0
      if t8 = t1 then
        l5_2
      else
        let t12 : Int32 := l5_2 + 1
        gsX_J1_indexOfChar_4cfef_1_L2 NF p3 t1 n2 t12
def gsX_J1_indexOfChar_4cfef_1 (NF : Nat) (p1 : Int32) (p2 : Int32) (p3 : Int32) (v : Nat → Int32) (f : Nat → Nat → Int32) : Int32 :=
  let t1 : Int32 := p1.toInt8.toInt32
  gsX_J1_indexOfChar_4cfef_1_L2 NF p3 t1 (4294967296 + NF) p2
theorem gsX_J1_indexOfChar_4cfef_1_q3 {NF : Nat} {p1 : Int32} {p2 : Int32} {p3 : Int32} {v : Nat → Int32} {f : Nat → Nat → Int32} {t1 : Int32} (h0 : t1 = p1.toInt8.toInt32) : gsX_J1_indexOfChar_4cfef_1 NF p1 p2 p3 v f = gsX_J1_indexOfChar_4cfef_1_L2 NF p3 t1 (4294967296 + NF) p2 := by
  subst h0
  simp only [gsX_J1_indexOfChar_4cfef_1]
theorem gsX_J1_indexOfChar_4cfef_1_q0 {NF : Nat} {p3 : Int32} {t1 : Int32} {n2 : Nat} {l5_2 : Int32} (h0 : (p3 ≤ l5_2)) : gsX_J1_indexOfChar_4cfef_1_L2 NF p3 t1 (n2 + 1) l5_2 = (-1) := by
  simp only [gsX_J1_indexOfChar_4cfef_1_L2, if_pos h0]
theorem gsX_J1_indexOfChar_4cfef_1_q1 {NF : Nat} {p3 : Int32} {t1 : Int32} {n2 : Nat} {l5_2 : Int32} {t8 : Int32} {t12 : Int32} (h0 : ¬ (p3 ≤ l5_2)) (h1 : t8 = (sBYT.getD 0 []).getD (l5_2).toNatClampNeg 0) (h2 : ¬ (t8 = t1)) (h3 : t12 = l5_2 + 1) : gsX_J1_indexOfChar_4cfef_1_L2 NF p3 t1 (n2 + 1) l5_2 = gsX_J1_indexOfChar_4cfef_1_L2 NF p3 t1 n2 t12 := by
  subst h1 h3
  simp only [gsX_J1_indexOfChar_4cfef_1_L2, if_neg h0, if_neg h2]
theorem gsX_J1_indexOfChar_4cfef_1_q2 {NF : Nat} {p3 : Int32} {t1 : Int32} {n2 : Nat} {l5_2 : Int32} {t8 : Int32} (h0 : ¬ (p3 ≤ l5_2)) (h1 : t8 = (sBYT.getD 0 []).getD (l5_2).toNatClampNeg 0) (h2 : (t8 = t1)) : gsX_J1_indexOfChar_4cfef_1_L2 NF p3 t1 (n2 + 1) l5_2 = l5_2 := by
  subst h1
  simp only [gsX_J1_indexOfChar_4cfef_1_L2, if_neg h0, if_pos h2]
def gsX_J1_indexOf_4cfef_1 (NF : Nat) (p1 : Int32) (v : Nat → Int32) (f : Nat → Nat → Int32) : Int32 :=
  if gsX_J1_canEncode_9a6ad_1 NF p1 v f = 1 then
    let t4 : Int32 := if (0 : Int32) < (0 : Int32) then (0 : Int32) else (0 : Int32)
    let t5 : Int32 := if (11 : Int32) < (11 : Int32) then (11 : Int32) else (11 : Int32)
    if t4 < t5 then
      let r9 : Int32 := gsX_J1_indexOfChar_4cfef_1 NF p1 t4 t5 v f
      r9
    else
      0
  else
    (-1)
theorem gsX_J1_indexOf_4cfef_1_q0 {NF : Nat} {p1 : Int32} {v : Nat → Int32} {f : Nat → Nat → Int32} {t4 : Int32} {t5 : Int32} {r9 : Int32} (h0 : gsX_J1_canEncode_9a6ad_1 NF p1 v f = 1) (h1 : t4 = if (0 : Int32) < (0 : Int32) then (0 : Int32) else (0 : Int32)) (h2 : t5 = if (11 : Int32) < (11 : Int32) then (11 : Int32) else (11 : Int32)) (h3 : (t4 < t5)) (h4 : r9 = gsX_J1_indexOfChar_4cfef_1 NF p1 t4 t5 v f) : gsX_J1_indexOf_4cfef_1 NF p1 v f = r9 := by
  subst h1 h2 h4
  simp only [gsX_J1_indexOf_4cfef_1, h0, if_pos h3, ite11, ite01, if_true, if_false]
theorem gsX_J1_indexOf_4cfef_1_q1 {NF : Nat} {p1 : Int32} {v : Nat → Int32} {f : Nat → Nat → Int32} (h0 : gsX_J1_canEncode_9a6ad_1 NF p1 v f = 0) : gsX_J1_indexOf_4cfef_1 NF p1 v f = (-1) := by
  simp only [gsX_J1_indexOf_4cfef_1, h0, ite11, ite01, if_true, if_false]
def gsX_J0_indexOf_7cf53_1 (NF : Nat) (p1 : Int32) (v : Nat → Int32) (f : Nat → Nat → Int32) : Int32 :=
  let r5 : Int32 := gsX_J1_indexOf_4cfef_1 NF p1 v f
  r5
theorem gsX_J0_indexOf_7cf53_1_q0 {NF : Nat} {p1 : Int32} {v : Nat → Int32} {f : Nat → Nat → Int32} {r5 : Int32} (h0 : r5 = gsX_J1_indexOf_4cfef_1 NF p1 v f) : gsX_J0_indexOf_7cf53_1 NF p1 v f = r5 := by
  subst h0
  simp only [gsX_J0_indexOf_7cf53_1]
def gsX_J0_indexOf_0f7a4_1 (NF : Nat) (p1 : Int32) (v : Nat → Int32) (f : Nat → Nat → Int32) : Int32 :=
  let r1 : Int32 := gsX_J0_indexOf_7cf53_1 NF p1 v f
  r1
theorem gsX_J0_indexOf_0f7a4_1_q0 {NF : Nat} {p1 : Int32} {v : Nat → Int32} {f : Nat → Nat → Int32} {r1 : Int32} (h0 : r1 = gsX_J0_indexOf_7cf53_1 NF p1 v f) : gsX_J0_indexOf_0f7a4_1 NF p1 v f = r1 := by
  subst h0
  simp only [gsX_J0_indexOf_0f7a4_1]
def gsX_X9_advance_1_J10 (NF : Nat) (f9 : Nat → Nat → Int32) (v9 : Nat → Int32) : (Nat → Int32) × (Nat → Nat → Int32) :=
  let t11 : Int32 := (v9 4) - (v9 3)
  if t11 ≤ 8 then
    let r15 : Int32 := gsX_X9_wordKind_1 NF v9 f9
    ((upd v9 2 r15), f9)
  else
    ((upd v9 2 1), f9)
def gsX_X9_advance_1_L9 (NF : Nat) (v : Nat → Int32) : Nat → (Nat → Int32) → (Nat → Nat → Int32) → (Nat → Int32) × (Nat → Nat → Int32)
  | 0, _, _ => ((fun _ => 0), (fun _ _ => 0))
  | n9 + 1, v9, f9 =>
    if (v 1) ≤ (v9 4) then
      gsX_X9_advance_1_J10 NF f9 v9
    else
      if gsX_X9_isLetter_1 NF (v9 4) v9 f9 = 1 then
        let t23 : Int32 := (v9 4) + 1
        gsX_X9_advance_1_L9 NF v n9 (upd v9 4 t23) f9
      else
        gsX_X9_advance_1_J10 NF f9 v9
def gsX_X9_advance_1_J28 (NF : Nat) (f27 : Nat → Nat → Int32) (v27 : Nat → Int32) : (Nat → Int32) × (Nat → Nat → Int32) :=
  let t29 : Int32 := (v27 4) - (v27 3)
  if 4 < t29 then
    ((upd v27 2 1), f27)
  else
    if gsX_X9_isLetter_1 NF (v27 4) v27 f27 = 1 then
      ((upd v27 2 1), f27)
    else
      ((upd v27 2 2), f27)
def gsX_X9_advance_1_L27 (NF : Nat) (v : Nat → Int32) : Nat → (Nat → Int32) → (Nat → Nat → Int32) → (Nat → Int32) × (Nat → Nat → Int32)
  | 0, _, _ => ((fun _ => 0), (fun _ _ => 0))
  | n27 + 1, v27, f27 =>
    if (v 1) ≤ (v27 4) then
      gsX_X9_advance_1_J28 NF f27 v27
    else
      if gsX_X9_isDigit_1 NF (v27 4) v27 f27 = 1 then
        let t42 : Int32 := (v27 5) * 10
        let t43 : Int32 := f27 0 ((v27 4)).toNatClampNeg
        let t44 : Int32 := t42 + t43
        let t45 : Int32 := t44 - 48
        let t46 : Int32 := (v27 4) + 1
        gsX_X9_advance_1_L27 NF v n27 (upd (upd v27 5 t45) 4 t46) f27
      else
        gsX_X9_advance_1_J28 NF f27 v27
def gsX_X9_advance_1_J2 (NF : Nat) (v : Nat → Int32) (f1 : Nat → Nat → Int32) (v1 : Nat → Int32) : (Nat → Int32) × (Nat → Nat → Int32) :=
  if (v1 3) < (v 1) then
    if gsX_X9_isLetter_1 NF (v1 3) (upd v1 4 (v1 3)) f1 = 1 then
      gsX_X9_advance_1_L9 NF v (4294967296 + NF) (upd v1 4 (v1 3)) f1
    else
      if gsX_X9_isDigit_1 NF (v1 3) (upd v1 4 (v1 3)) f1 = 1 then
        gsX_X9_advance_1_L27 NF v (4294967296 + NF) (upd (upd v1 4 (v1 3)) 5 0) f1
      else
        let t47 : Int32 := (v1 3) + 1
        let t48 : Int32 := f1 0 ((v1 3)).toNatClampNeg
        let t49 : Int32 := t48 &&& 255
        let t50 : Int32 := (t49.toUInt32 % 65536).toInt32
        let r51 : Int32 := gsX_J0_indexOf_0f7a4_1 NF t50 (upd (upd v1 4 (v1 3)) 4 t47) f1
        if r51 < 0 then
          ((upd (upd (upd v1 4 (v1 3)) 4 t47) 2 1), f1)
        else
          let t54 : Int32 := f1 0 ((v1 3)).toNatClampNeg
          ((upd (upd (upd v1 4 (v1 3)) 4 t47) 2 t54), f1)
  else
    ((upd (upd v1 4 (v1 3)) 2 0), f1)
def gsX_X9_advance_1_L1 (NF : Nat) (v : Nat → Int32) : Nat → (Nat → Int32) → (Nat → Nat → Int32) → (Nat → Int32) × (Nat → Nat → Int32)
  | 0, _, _ => ((fun _ => 0), (fun _ _ => 0))
  | n1 + 1, v1, f1 =>
    if (v 1) ≤ (v1 3) then
      gsX_X9_advance_1_J2 NF v f1 v1
    else
      let t62 : Int32 := f1 0 ((v1 3)).toNatClampNeg
      if t62 = 32 then
        let t64 : Int32 := (v1 3) + 1
        gsX_X9_advance_1_L1 NF v n1 (upd v1 3 t64) f1
      else
        let t65 : Int32 := f1 0 ((v1 3)).toNatClampNeg
        if t65 = 10 then
          let t67 : Int32 := (v1 3) + 1
          gsX_X9_advance_1_L1 NF v n1 (upd v1 3 t67) f1
        else
          gsX_X9_advance_1_J2 NF v f1 v1
def gsX_X9_advance_1 (NF : Nat) (v : Nat → Int32) (f : Nat → Nat → Int32) : (Nat → Int32) × (Nat → Nat → Int32) :=
  gsX_X9_advance_1_L1 NF v (4294967296 + NF) (upd v 3 (v 4)) f
theorem gsX_X9_advance_1_q20 {NF : Nat} {v : Nat → Int32} {f : Nat → Nat → Int32}  : gsX_X9_advance_1 NF v f = gsX_X9_advance_1_L1 NF v (4294967296 + NF) (upd v 3 (v 4)) f := by
  simp only [gsX_X9_advance_1]
theorem gsX_X9_advance_1_q16 {NF : Nat} {v : Nat → Int32} {n1 : Nat} {v1 : Nat → Int32} {f1 : Nat → Nat → Int32} (h0 : ((v 1) ≤ (v1 3))) : gsX_X9_advance_1_L1 NF v (n1 + 1) v1 f1 = gsX_X9_advance_1_J2 NF v f1 v1 := by
  simp only [gsX_X9_advance_1_L1, if_pos h0]
theorem gsX_X9_advance_1_q17 {NF : Nat} {v : Nat → Int32} {n1 : Nat} {v1 : Nat → Int32} {f1 : Nat → Nat → Int32} {t62 : Int32} {t64 : Int32} (h0 : ¬ ((v 1) ≤ (v1 3))) (h1 : t62 = f1 0 ((v1 3)).toNatClampNeg) (h2 : (t62 = 32)) (h3 : t64 = (v1 3) + 1) : gsX_X9_advance_1_L1 NF v (n1 + 1) v1 f1 = gsX_X9_advance_1_L1 NF v n1 (upd v1 3 t64) f1 := by
  subst h1 h3
  simp only [gsX_X9_advance_1_L1, if_neg h0, if_pos h2]
theorem gsX_X9_advance_1_q18 {NF : Nat} {v : Nat → Int32} {n1 : Nat} {v1 : Nat → Int32} {f1 : Nat → Nat → Int32} {t62 : Int32} {t65 : Int32} (h0 : ¬ ((v 1) ≤ (v1 3))) (h1 : t62 = f1 0 ((v1 3)).toNatClampNeg) (h2 : ¬ (t62 = 32)) (h3 : t65 = f1 0 ((v1 3)).toNatClampNeg) (h4 : ¬ (t65 = 10)) : gsX_X9_advance_1_L1 NF v (n1 + 1) v1 f1 = gsX_X9_advance_1_J2 NF v f1 v1 := by
  subst h1 h3
  simp only [gsX_X9_advance_1_L1, if_neg h0, if_neg h2, if_neg h4]
theorem gsX_X9_advance_1_q19 {NF : Nat} {v : Nat → Int32} {n1 : Nat} {v1 : Nat → Int32} {f1 : Nat → Nat → Int32} {t62 : Int32} {t65 : Int32} {t67 : Int32} (h0 : ¬ ((v 1) ≤ (v1 3))) (h1 : t62 = f1 0 ((v1 3)).toNatClampNeg) (h2 : ¬ (t62 = 32)) (h3 : t65 = f1 0 ((v1 3)).toNatClampNeg) (h4 : (t65 = 10)) (h5 : t67 = (v1 3) + 1) : gsX_X9_advance_1_L1 NF v (n1 + 1) v1 f1 = gsX_X9_advance_1_L1 NF v n1 (upd v1 3 t67) f1 := by
  subst h1 h3 h5
  simp only [gsX_X9_advance_1_L1, if_neg h0, if_neg h2, if_pos h4]
theorem gsX_X9_advance_1_q5 {NF : Nat} {v : Nat → Int32} {f1 : Nat → Nat → Int32} {v1 : Nat → Int32} (h0 : ((v1 3) < (v 1))) (h1 : gsX_X9_isLetter_1 NF (v1 3) (upd v1 4 (v1 3)) f1 = 1) : gsX_X9_advance_1_J2 NF v f1 v1 = gsX_X9_advance_1_L9 NF v (4294967296 + NF) (upd v1 4 (v1 3)) f1 := by
  simp only [gsX_X9_advance_1_J2, if_pos h0, h1, ite11, ite01, if_true, if_false]
theorem gsX_X9_advance_1_q12 {NF : Nat} {v : Nat → Int32} {f1 : Nat → Nat → Int32} {v1 : Nat → Int32} (h0 : ((v1 3) < (v 1))) (h1 : gsX_X9_isLetter_1 NF (v1 3) (upd v1 4 (v1 3)) f1 = 0) (h2 : gsX_X9_isDigit_1 NF (v1 3) (upd v1 4 (v1 3)) f1 = 1) : gsX_X9_advance_1_J2 NF v f1 v1 = gsX_X9_advance_1_L27 NF v (4294967296 + NF) (upd (upd v1 4 (v1 3)) 5 0) f1 := by
  simp only [gsX_X9_advance_1_J2, if_pos h0, h1, h2, ite11, ite01, if_true, if_false]
theorem gsX_X9_advance_1_q13 {NF : Nat} {v : Nat → Int32} {f1 : Nat → Nat → Int32} {v1 : Nat → Int32} {t47 : Int32} {t48 : Int32} {t49 : Int32} {t50 : Int32} {r51 : Int32} (h0 : ((v1 3) < (v 1))) (h1 : gsX_X9_isLetter_1 NF (v1 3) (upd v1 4 (v1 3)) f1 = 0) (h2 : gsX_X9_isDigit_1 NF (v1 3) (upd v1 4 (v1 3)) f1 = 0) (h3 : t47 = (v1 3) + 1) (h4 : t48 = f1 0 ((v1 3)).toNatClampNeg) (h5 : t49 = t48 &&& 255) (h6 : t50 = (t49.toUInt32 % 65536).toInt32) (h7 : r51 = gsX_J0_indexOf_0f7a4_1 NF t50 (upd (upd v1 4 (v1 3)) 4 t47) f1) (h8 : (r51 < 0)) : gsX_X9_advance_1_J2 NF v f1 v1 = ((upd (upd (upd v1 4 (v1 3)) 4 t47) 2 1), f1) := by
  subst h3 h4 h5 h6 h7
  simp only [gsX_X9_advance_1_J2, if_pos h0, h1, h2, if_pos h8, ite11, ite01, if_true, if_false]
theorem gsX_X9_advance_1_q14 {NF : Nat} {v : Nat → Int32} {f1 : Nat → Nat → Int32} {v1 : Nat → Int32} {t47 : Int32} {t48 : Int32} {t49 : Int32} {t50 : Int32} {r51 : Int32} {t54 : Int32} (h0 : ((v1 3) < (v 1))) (h1 : gsX_X9_isLetter_1 NF (v1 3) (upd v1 4 (v1 3)) f1 = 0) (h2 : gsX_X9_isDigit_1 NF (v1 3) (upd v1 4 (v1 3)) f1 = 0) (h3 : t47 = (v1 3) + 1) (h4 : t48 = f1 0 ((v1 3)).toNatClampNeg) (h5 : t49 = t48 &&& 255) (h6 : t50 = (t49.toUInt32 % 65536).toInt32) (h7 : r51 = gsX_J0_indexOf_0f7a4_1 NF t50 (upd (upd v1 4 (v1 3)) 4 t47) f1) (h8 : ¬ (r51 < 0)) (h9 : t54 = f1 0 ((v1 3)).toNatClampNeg) : gsX_X9_advance_1_J2 NF v f1 v1 = ((upd (upd (upd v1 4 (v1 3)) 4 t47) 2 t54), f1) := by
  subst h3 h4 h5 h6 h7 h9
  simp only [gsX_X9_advance_1_J2, if_pos h0, h1, h2, if_neg h8, ite11, ite01, if_true, if_false]
theorem gsX_X9_advance_1_q15 {NF : Nat} {v : Nat → Int32} {f1 : Nat → Nat → Int32} {v1 : Nat → Int32} (h0 : ¬ ((v1 3) < (v 1))) : gsX_X9_advance_1_J2 NF v f1 v1 = ((upd (upd v1 4 (v1 3)) 2 0), f1) := by
  simp only [gsX_X9_advance_1_J2, if_neg h0]
theorem gsX_X9_advance_1_q2 {NF : Nat} {v : Nat → Int32} {n9 : Nat} {v9 : Nat → Int32} {f9 : Nat → Nat → Int32} (h0 : ((v 1) ≤ (v9 4))) : gsX_X9_advance_1_L9 NF v (n9 + 1) v9 f9 = gsX_X9_advance_1_J10 NF f9 v9 := by
  simp only [gsX_X9_advance_1_L9, if_pos h0]
theorem gsX_X9_advance_1_q3 {NF : Nat} {v : Nat → Int32} {n9 : Nat} {v9 : Nat → Int32} {f9 : Nat → Nat → Int32} {t23 : Int32} (h0 : ¬ ((v 1) ≤ (v9 4))) (h1 : gsX_X9_isLetter_1 NF (v9 4) v9 f9 = 1) (h2 : t23 = (v9 4) + 1) : gsX_X9_advance_1_L9 NF v (n9 + 1) v9 f9 = gsX_X9_advance_1_L9 NF v n9 (upd v9 4 t23) f9 := by
  subst h2
  simp only [gsX_X9_advance_1_L9, if_neg h0, h1, ite11, ite01, if_true, if_false]
theorem gsX_X9_advance_1_q4 {NF : Nat} {v : Nat → Int32} {n9 : Nat} {v9 : Nat → Int32} {f9 : Nat → Nat → Int32} (h0 : ¬ ((v 1) ≤ (v9 4))) (h1 : gsX_X9_isLetter_1 NF (v9 4) v9 f9 = 0) : gsX_X9_advance_1_L9 NF v (n9 + 1) v9 f9 = gsX_X9_advance_1_J10 NF f9 v9 := by
  simp only [gsX_X9_advance_1_L9, if_neg h0, h1, ite11, ite01, if_true, if_false]
theorem gsX_X9_advance_1_q0 {NF : Nat} {f9 : Nat → Nat → Int32} {v9 : Nat → Int32} {t11 : Int32} {r15 : Int32} (h0 : t11 = (v9 4) - (v9 3)) (h1 : (t11 ≤ 8)) (h2 : r15 = gsX_X9_wordKind_1 NF v9 f9) : gsX_X9_advance_1_J10 NF f9 v9 = ((upd v9 2 r15), f9) := by
  subst h0 h2
  simp only [gsX_X9_advance_1_J10, if_pos h1]
theorem gsX_X9_advance_1_q1 {NF : Nat} {f9 : Nat → Nat → Int32} {v9 : Nat → Int32} {t11 : Int32} (h0 : t11 = (v9 4) - (v9 3)) (h1 : ¬ (t11 ≤ 8)) : gsX_X9_advance_1_J10 NF f9 v9 = ((upd v9 2 1), f9) := by
  subst h0
  simp only [gsX_X9_advance_1_J10, if_neg h1]
theorem gsX_X9_advance_1_q9 {NF : Nat} {v : Nat → Int32} {n27 : Nat} {v27 : Nat → Int32} {f27 : Nat → Nat → Int32} (h0 : ((v 1) ≤ (v27 4))) : gsX_X9_advance_1_L27 NF v (n27 + 1) v27 f27 = gsX_X9_advance_1_J28 NF f27 v27 := by
  simp only [gsX_X9_advance_1_L27, if_pos h0]
theorem gsX_X9_advance_1_q10 {NF : Nat} {v : Nat → Int32} {n27 : Nat} {v27 : Nat → Int32} {f27 : Nat → Nat → Int32} {t42 : Int32} {t43 : Int32} {t44 : Int32} {t45 : Int32} {t46 : Int32} (h0 : ¬ ((v 1) ≤ (v27 4))) (h1 : gsX_X9_isDigit_1 NF (v27 4) v27 f27 = 1) (h2 : t42 = (v27 5) * 10) (h3 : t43 = f27 0 ((v27 4)).toNatClampNeg) (h4 : t44 = t42 + t43) (h5 : t45 = t44 - 48) (h6 : t46 = (v27 4) + 1) : gsX_X9_advance_1_L27 NF v (n27 + 1) v27 f27 = gsX_X9_advance_1_L27 NF v n27 (upd (upd v27 5 t45) 4 t46) f27 := by
  subst h2 h3 h4 h5 h6
  simp only [gsX_X9_advance_1_L27, if_neg h0, h1, ite11, ite01, if_true, if_false]
theorem gsX_X9_advance_1_q11 {NF : Nat} {v : Nat → Int32} {n27 : Nat} {v27 : Nat → Int32} {f27 : Nat → Nat → Int32} (h0 : ¬ ((v 1) ≤ (v27 4))) (h1 : gsX_X9_isDigit_1 NF (v27 4) v27 f27 = 0) : gsX_X9_advance_1_L27 NF v (n27 + 1) v27 f27 = gsX_X9_advance_1_J28 NF f27 v27 := by
  simp only [gsX_X9_advance_1_L27, if_neg h0, h1, ite11, ite01, if_true, if_false]
theorem gsX_X9_advance_1_q6 {NF : Nat} {f27 : Nat → Nat → Int32} {v27 : Nat → Int32} {t29 : Int32} (h0 : t29 = (v27 4) - (v27 3)) (h1 : (4 < t29)) : gsX_X9_advance_1_J28 NF f27 v27 = ((upd v27 2 1), f27) := by
  subst h0
  simp only [gsX_X9_advance_1_J28, if_pos h1]
theorem gsX_X9_advance_1_q7 {NF : Nat} {f27 : Nat → Nat → Int32} {v27 : Nat → Int32} {t29 : Int32} (h0 : t29 = (v27 4) - (v27 3)) (h1 : ¬ (4 < t29)) (h2 : gsX_X9_isLetter_1 NF (v27 4) v27 f27 = 1) : gsX_X9_advance_1_J28 NF f27 v27 = ((upd v27 2 1), f27) := by
  subst h0
  simp only [gsX_X9_advance_1_J28, if_neg h1, h2, ite11, ite01, if_true, if_false]
theorem gsX_X9_advance_1_q8 {NF : Nat} {f27 : Nat → Nat → Int32} {v27 : Nat → Int32} {t29 : Int32} (h0 : t29 = (v27 4) - (v27 3)) (h1 : ¬ (4 < t29)) (h2 : gsX_X9_isLetter_1 NF (v27 4) v27 f27 = 0) : gsX_X9_advance_1_J28 NF f27 v27 = ((upd v27 2 2), f27) := by
  subst h0
  simp only [gsX_X9_advance_1_J28, if_neg h1, h2, ite11, ite01, if_true, if_false]
