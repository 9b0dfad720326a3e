def gsX_X9_hasRoom_1 (NF : Nat) (v : Nat → Int32) (f : Nat → Nat → Int32) : Int32 :=
  let t1 : Int32 := (v 1) + 20
  if 1600 < t1 then
    0
  else
    1
theorem gsX_X9_hasRoom_1_q0 {NF : Nat} {v : Nat → Int32} {f : Nat → Nat → Int32} {t1 : Int32} (h0 : t1 = (v 1) + 20) (h1 : (1600 < t1)) : gsX_X9_hasRoom_1 NF v f = 0 := by
  subst h0
  simp only [gsX_X9_hasRoom_1, if_pos h1]
theorem gsX_X9_hasRoom_1_q1 {NF : Nat} {v : Nat → Int32} {f : Nat → Nat → Int32} {t1 : Int32} (h0 : t1 = (v 1) + 20) (h1 : ¬ (1600 < t1)) : gsX_X9_hasRoom_1 NF v f = 1 := by
  subst h0
  simp only [gsX_X9_hasRoom_1, if_neg h1]
def gsX_X9_append_1_L1 (NF : Nat) (p1 : Int32) : Nat → (Int32) → (Nat → Int32) → (Nat → Nat → Int32) → (Nat → Int32) × (Nat → Nat → Int32)
  | 0, _, _, _ => ((fun _ => 0), (fun _ _ => 0))
  | n1 + 1, l2_1, v1, f1 =>
    if l2_1 < 0 then
      (v1, f1)
    else
      if 1600 ≤ (v1 1) then
        (v1, f1)
      else
        let t4 : Int32 := p1 >>> (l2_1 &&& 31)
        let t5 : Int32 := t4.toInt8.toInt32
        let f6 : Nat → Nat → Int32 := upd2 f1 0 (upd (f1 0) (v1 1).toNatClampNeg (vp_nar .byte t5))
        let t7 : Int32 := (v1 1) + 1
        let t9 : Int32 := l2_1 + (-8)
        gsX_X9_append_1_L1 NF p1 n1 t9 (upd v1 1 t7) f6
def gsX_X9_append_1 (NF : Nat) (p1 : Int32) (v : Nat → Int32) (f : Nat → Nat → Int32) : (Nat → Int32) × (Nat → Nat → Int32) :=
  gsX_X9_append_1_L1 NF p1 (4294967296 + NF) 24 v f
theorem gsX_X9_append_1_q3 {NF : Nat} {p1 : Int32} {v : Nat → Int32} {f : Nat → Nat → Int32}  : gsX_X9_append_1 NF p1 v f = gsX_X9_append_1_L1 NF p1 (4294967296 + NF) 24 v f := by
  simp only [gsX_X9_append_1]
theorem gsX_X9_append_1_q0 {NF : Nat} {p1 : Int32} {n1 : Nat} {l2_1 : Int32} {v1 : Nat → Int32} {f1 : Nat → Nat → Int32} (h0 : (l2_1 < 0)) : gsX_X9_append_1_L1 NF p1 (n1 + 1) l2_1 v1 f1 = (v1, f1) := by
  simp only [gsX_X9_append_1_L1, if_pos h0]
theorem gsX_X9_append_1_q1 {NF : Nat} {p1 : Int32} {n1 : Nat} {l2_1 : Int32} {v1 : Nat → Int32} {f1 : Nat → Nat → Int32} (h0 : ¬ (l2_1 < 0)) (h1 : (1600 ≤ (v1 1))) : gsX_X9_append_1_L1 NF p1 (n1 + 1) l2_1 v1 f1 = (v1, f1) := by
  simp only [gsX_X9_append_1_L1, if_neg h0, if_pos h1]
theorem gsX_X9_append_1_q2 {NF : Nat} {p1 : Int32} {n1 : Nat} {l2_1 : Int32} {v1 : Nat → Int32} {f1 : Nat → Nat → Int32} {t4 : Int32} {t5 : Int32} {f6 : Nat → Nat → Int32} {t7 : Int32} {t9 : Int32} (h0 : ¬ (l2_1 < 0)) (h1 : ¬ (1600 ≤ (v1 1))) (h2 : t4 = p1 >>> (l2_1 &&& 31)) (h3 : t5 = t4.toInt8.toInt32) (h4 : f6 = upd2 f1 0 (upd (f1 0) (v1 1).toNatClampNeg (vp_nar .byte t5))) (h5 : t7 = (v1 1) + 1) (h6 : t9 = l2_1 + (-8)) : gsX_X9_append_1_L1 NF p1 (n1 + 1) l2_1 v1 f1 = gsX_X9_append_1_L1 NF p1 n1 t9 (upd v1 1 t7) f6 := by
  subst h2 h3 h4 h5 h6
  simp only [gsX_X9_append_1_L1, if_neg h0, if_neg h1]
def gsX_X10_feed_1 (NF : Nat) (p1 : Int32) (p2 : Int32) (p3 : Int32) (p4 : Int32) (p5 : Int32) (v : Nat → Int32) (f : Nat → Nat → Int32) : Int32 × (Nat → Int32) × (Nat → Nat → Int32) :=
  if gsX_X9_hasRoom_1 NF v f = 1 then
    match gsX_X9_append_1 NF p1 v f with
    | (v5, f6) =>
      match gsX_X9_append_1 NF p2 v5 f6 with
      | (v8, f9) =>
        match gsX_X9_append_1 NF p3 v8 f9 with
        | (v11, f12) =>
          match gsX_X9_append_1 NF p4 v11 f12 with
          | (v14, f15) =>
            match gsX_X9_append_1 NF p5 v14 f15 with
            | (v17, f18) =>
              ((v17 1), v17, f18)
  else
    ((-1), v, f)
theorem gsX_X10_feed_1_q0 {NF : Nat} {p1 : Int32} {p2 : Int32} {p3 : Int32} {p4 : Int32} {p5 : Int32} {v : Nat → Int32} {f : Nat → Nat → Int32} {v5 : Nat → Int32} {f6 : Nat → Nat → Int32} {v8 : Nat → Int32} {f9 : Nat → Nat → Int32} {v11 : Nat → Int32} {f12 : Nat → Nat → Int32} {v14 : Nat → Int32} {f15 : Nat → Nat → Int32} {v17 : Nat → Int32} {f18 : Nat → Nat → Int32} (h0 : gsX_X9_hasRoom_1 NF v f = 1) (h1 : gsX_X9_append_1 NF p1 v f = (v5, f6)) (h2 : gsX_X9_append_1 NF p2 v5 f6 = (v8, f9)) (h3 : gsX_X9_append_1 NF p3 v8 f9 = (v11, f12)) (h4 : gsX_X9_append_1 NF p4 v11 f12 = (v14, f15)) (h5 : gsX_X9_append_1 NF p5 v14 f15 = (v17, f18)) : gsX_X10_feed_1 NF p1 p2 p3 p4 p5 v f = ((v17 1), v17, f18) := by
  simp only [gsX_X10_feed_1, h0, h1, h2, h3, h4, h5, ite11, ite01, if_true, if_false]
theorem gsX_X10_feed_1_q1 {NF : Nat} {p1 : Int32} {p2 : Int32} {p3 : Int32} {p4 : Int32} {p5 : Int32} {v : Nat → Int32} {f : Nat → Nat → Int32} (h0 : gsX_X9_hasRoom_1 NF v f = 0) : gsX_X10_feed_1 NF p1 p2 p3 p4 p5 v f = ((-1), v, f) := by
  simp only [gsX_X10_feed_1, h0, ite11, ite01, if_true, if_false]
def gsX_X10_end_1 (NF : Nat) (p1 : Int32) (v : Nat → Int32) (f : Nat → Nat → Int32) : Int32 × (Nat → Int32) × (Nat → Nat → Int32) :=
  if p1 < 0 then
    ((-1), v, f)
  else
    if p1 ≤ (v 1) then
      (p1, (upd v 1 p1), f)
    else
      ((-1), v, f)
theorem gsX_X10_end_1_q0 {NF : Nat} {p1 : Int32} {v : Nat → Int32} {f : Nat → Nat → Int32} (h0 : (p1 < 0)) : gsX_X10_end_1 NF p1 v f = ((-1), v, f) := by
  simp only [gsX_X10_end_1, if_pos h0]
theorem gsX_X10_end_1_q1 {NF : Nat} {p1 : Int32} {v : Nat → Int32} {f : Nat → Nat → Int32} (h0 : ¬ (p1 < 0)) (h1 : (p1 ≤ (v 1))) : gsX_X10_end_1 NF p1 v f = (p1, (upd v 1 p1), f) := by
  simp only [gsX_X10_end_1, if_neg h0, if_pos h1]
theorem gsX_X10_end_1_q2 {NF : Nat} {p1 : Int32} {v : Nat → Int32} {f : Nat → Nat → Int32} (h0 : ¬ (p1 < 0)) (h1 : ¬ (p1 ≤ (v 1))) : gsX_X10_end_1 NF p1 v f = ((-1), v, f) := by
  simp only [gsX_X10_end_1, if_neg h0, if_neg h1]
def gsX_X10_fault_1 (NF : Nat) (p1 : Int32) (v : Nat → Int32) (f : Nat → Nat → Int32) : Int32 :=
  if p1 = 0 then
    (v 7)
  else
    if p1 = 1 then
      (v 8)
    else
      (-1)
theorem gsX_X10_fault_1_q0 {NF : Nat} {p1 : Int32} {v : Nat → Int32} {f : Nat → Nat → Int32} (h0 : ¬ (p1 = 0)) (h1 : ¬ (p1 = 1)) : gsX_X10_fault_1 NF p1 v f = (-1) := by
  simp only [gsX_X10_fault_1, if_neg h0, if_neg h1]
theorem gsX_X10_fault_1_q1 {NF : Nat} {p1 : Int32} {v : Nat → Int32} {f : Nat → Nat → Int32} (h0 : ¬ (p1 = 0)) (h1 : (p1 = 1)) : gsX_X10_fault_1 NF p1 v f = (v 8) := by
  simp only [gsX_X10_fault_1, if_neg h0, if_pos h1]
theorem gsX_X10_fault_1_q2 {NF : Nat} {p1 : Int32} {v : Nat → Int32} {f : Nat → Nat → Int32} (h0 : (p1 = 0)) : gsX_X10_fault_1 NF p1 v f = (v 7) := by
  simp only [gsX_X10_fault_1, if_pos h0]
def gsX_X4_clear_1 (NF : Nat) (v : Nat → Int32) (f : Nat → Nat → Int32) : (Nat → Int32) × (Nat → Nat → Int32) :=
  ((upd (upd v 16 0) 17 0), f)
theorem gsX_X4_clear_1_q0 {NF : Nat} {v : Nat → Int32} {f : Nat → Nat → Int32}  : gsX_X4_clear_1 NF v f = ((upd (upd v 16 0) 17 0), f) := by
  simp only [gsX_X4_clear_1]
def gsX_X7_setDefaults_1 (NF : Nat) (v : Nat → Int32) (f : Nat → Nat → Int32) : (Nat → Int32) × (Nat → Nat → Int32) :=
  ((upd (upd (upd (upd (upd v 11 10) 12 150) 13 2) 14 0) 15 0), f)
theorem gsX_X7_setDefaults_1_q0 {NF : Nat} {v : Nat → Int32} {f : Nat → Nat → Int32}  : gsX_X7_setDefaults_1 NF v f = ((upd (upd (upd (upd (upd v 11 10) 12 150) 13 2) 14 0) 15 0), f) := by
  simp only [gsX_X7_setDefaults_1]
def gsX_X7_clear_1 (NF : Nat) (v : Nat → Int32) (f : Nat → Nat → Int32) : (Nat → Int32) × (Nat → Nat → Int32) :=
  match gsX_X4_clear_1 NF (upd (upd v 9 0) 10 0) f with
  | (v2, f3) =>
    match gsX_X7_setDefaults_1 NF v2 f3 with
    | (v5, f6) =>
      (v5, f6)
theorem gsX_X7_clear_1_q0 {NF : Nat} {v : Nat → Int32} {f : Nat → Nat → Int32} {v2 : Nat → Int32} {f3 : Nat → Nat → Int32} {v5 : Nat → Int32} {f6 : Nat → Nat → Int32} (h0 : gsX_X4_clear_1 NF (upd (upd v 9 0) 10 0) f = (v2, f3)) (h1 : gsX_X7_setDefaults_1 NF v2 f3 = (v5, f6)) : gsX_X7_clear_1 NF v f = (v5, f6) := by
  simp only [gsX_X7_clear_1, h0, h1]
def gsX_X9_isLetter_1 (NF : Nat) (p1 : Int32) (v : Nat → Int32) (f : Nat → Nat → Int32) : Int32 :=
  if p1 < 0 then
    0
  else
    if (v 1) ≤ p1 then
      0
    else
      let t7 : Int32 := f 0 (p1).toNatClampNeg
      if t7 < 97 then
        0
      else
        let t9 : Int32 := f 0 (p1).toNatClampNeg
        if 122 < t9 then
          0
        else
          1
theorem gsX_X9_isLetter_1_q0 {NF : Nat} {p1 : Int32} {v : Nat → Int32} {f : Nat → Nat → Int32} (h0 : (p1 < 0)) : gsX_X9_isLetter_1 NF p1 v f = 0 := by
  simp only [gsX_X9_isLetter_1, if_pos h0]
theorem gsX_X9_isLetter_1_q1 {NF : Nat} {p1 : Int32} {v : Nat → Int32} {f : Nat → Nat → Int32} (h0 : ¬ (p1 < 0)) (h1 : ((v 1) ≤ p1)) : gsX_X9_isLetter_1 NF p1 v f = 0 := by
  simp only [gsX_X9_isLetter_1, if_neg h0, if_pos h1]
theorem gsX_X9_isLetter_1_q2 {NF : Nat} {p1 : Int32} {v : Nat → Int32} {f : Nat → Nat → Int32} {t7 : Int32} (h0 : ¬ (p1 < 0)) (h1 : ¬ ((v 1) ≤ p1)) (h2 : t7 = f 0 (p1).toNatClampNeg) (h3 : (t7 < 97)) : gsX_X9_isLetter_1 NF p1 v f = 0 := by
  subst h2
  simp only [gsX_X9_isLetter_1, if_neg h0, if_neg h1, if_pos h3]
theorem gsX_X9_isLetter_1_q3 {NF : Nat} {p1 : Int32} {v : Nat → Int32} {f : Nat → Nat → Int32} {t7 : Int32} {t9 : Int32} (h0 : ¬ (p1 < 0)) (h1 : ¬ ((v 1) ≤ p1)) (h2 : t7 = f 0 (p1).toNatClampNeg) (h3 : ¬ (t7 < 97)) (h4 : t9 = f 0 (p1).toNatClampNeg) (h5 : (122 < t9)) : gsX_X9_isLetter_1 NF p1 v f = 0 := by
  subst h2 h4
  simp only [gsX_X9_isLetter_1, if_neg h0, if_neg h1, if_neg h3, if_pos h5]
theorem gsX_X9_isLetter_1_q4 {NF : Nat} {p1 : Int32} {v : Nat → Int32} {f : Nat → Nat → Int32} {t7 : Int32} {t9 : Int32} (h0 : ¬ (p1 < 0)) (h1 : ¬ ((v 1) ≤ p1)) (h2 : t7 = f 0 (p1).toNatClampNeg) (h3 : ¬ (t7 < 97)) (h4 : t9 = f 0 (p1).toNatClampNeg) (h5 : ¬ (122 < t9)) : gsX_X9_isLetter_1 NF p1 v f = 1 := by
  subst h2 h4
  simp only [gsX_X9_isLetter_1, if_neg h0, if_neg h1, if_neg h3, if_neg h5]
def gsX_J0_coder_7d493_1 (NF : Nat) (v : Nat → Int32) (f : Nat → Nat → Int32) : Int32 :=
  0
theorem gsX_J0_coder_7d493_1_q0 {NF : Nat} {v : Nat → Int32} {f : Nat → Nat → Int32}  : gsX_J0_coder_7d493_1 NF v f = 0 := by
  simp only [gsX_J0_coder_7d493_1]
def gsX_J0_length_8abf5_1 (NF : Nat) (v : Nat → Int32) (f : Nat → Nat → Int32) : Int32 :=
  102
theorem gsX_J0_length_8abf5_1_q0 {NF : Nat} {v : Nat → Int32} {f : Nat → Nat → Int32}  : gsX_J0_length_8abf5_1 NF v f = 102 := by
  simp only [gsX_J0_length_8abf5_1]
def gsX_J0_isLatin1_aae02_1 (NF : Nat) (v : Nat → Int32) (f : Nat → Nat → Int32) : Int32 :=
  1
theorem gsX_J0_isLatin1_aae02_1_q0 {NF : Nat} {v : Nat → Int32} {f : Nat → Nat → Int32}  : gsX_J0_isLatin1_aae02_1 NF v f = 1 := by
  simp only [gsX_J0_isLatin1_aae02_1]
def gsX_J1_charAt_3b067_1 (NF : Nat) (p1 : Int32) (v : Nat → Int32) (f : Nat → Nat → Int32) : Int32 :=
  let t1 : Int32 := (sBYT.getD 1 []).getD (p1).toNatClampNeg 0
  let t2 : Int32 := t1 &&& 255
  let t3 : Int32 := (t2.toUInt32 % 65536).toInt32
  t3
theorem gsX_J1_charAt_3b067_1_q0 {NF : Nat} {p1 : Int32} {v : Nat → Int32} {f : Nat → Nat → Int32} {t1 : Int32} {t2 : Int32} {t3 : Int32} (h0 : t1 = (sBYT.getD 1 []).getD (p1).toNatClampNeg 0) (h1 : t2 = t1 &&& 255) (h2 : t3 = (t2.toUInt32 % 65536).toInt32) : gsX_J1_charAt_3b067_1 NF p1 v f = t3 := by
  subst h0 h1 h2
  simp only [gsX_J1_charAt_3b067_1]
def gsX_J0_charAt_5068e_1 (NF : Nat) (p1 : Int32) (v : Nat → Int32) (f : Nat → Nat → Int32) : Int32 :=
  let r3 : Int32 := gsX_J1_charAt_3b067_1 NF p1 v f
  r3
theorem gsX_J0_charAt_5068e_1_q0 {NF : Nat} {p1 : Int32} {v : Nat → Int32} {f : Nat → Nat → Int32} {r3 : Int32} (h0 : r3 = gsX_J1_charAt_3b067_1 NF p1 v f) : gsX_J0_charAt_5068e_1 NF p1 v f = r3 := by
  subst h0
  simp only [gsX_J0_charAt_5068e_1]
def gsX_X9_wordKind_1_L1 (NF : Nat) (v : Nat → Int32) (f : Nat → Nat → Int32) : Nat → (Int32) → (Int32) → (Int32) → (Int32) → Int32
  | 0, _, _, _, _ => 0
  | n1 + 1, l1_1, l2_1, l3_1, l4_1 =>
    if 102 ≤ l4_1 then
      3
    else
      let r5 : Int32 := gsX_J0_charAt_5068e_1 NF l4_1 v f
      let t7 : Int32 := (v 3) + l4_1
      let t10 : Int32 := t7 - l2_1
      if r5 = 32 then
        if l3_1 = 0 then
          let t15 : Int32 := l1_1 + 1
          let t16 : Int32 := l4_1 + 1
          let t17 : Int32 := l4_1 + 1
          gsX_X9_wordKind_1_L1 NF v f n1 t15 t16 1 t17
        else
          if t10 = (v 4) then
            l1_1
          else
            let t23 : Int32 := l1_1 + 1
            let t24 : Int32 := l4_1 + 1
            let t25 : Int32 := l4_1 + 1
            gsX_X9_wordKind_1_L1 NF v f n1 t23 t24 1 t25
      else
        if l3_1 = 0 then
          let t31 : Int32 := l4_1 + 1
          gsX_X9_wordKind_1_L1 NF v f n1 l1_1 l2_1 0 t31
        else
          if (v 4) ≤ t10 then
            let t36 : Int32 := l4_1 + 1
            gsX_X9_wordKind_1_L1 NF v f n1 l1_1 l2_1 0 t36
          else
            let t40 : Int32 := f 0 (t10).toNatClampNeg
            if t40 = r5 then
              let t48 : Int32 := l4_1 + 1
              gsX_X9_wordKind_1_L1 NF v f n1 l1_1 l2_1 1 t48
            else
              let t44 : Int32 := l4_1 + 1
              gsX_X9_wordKind_1_L1 NF v f n1 l1_1 l2_1 0 t44
def gsX_X9_wordKind_1 (NF : Nat) (v : Nat → Int32) (f : Nat → Nat → Int32) : Int32 :=
  gsX_X9_wordKind_1_L1 NF v f (4294967296 + NF) 101 0 1 0
theorem gsX_X9_wordKind_1_q8 {NF : Nat} {v : Nat → Int32} {f : Nat → Nat → Int32}  : gsX_X9_wordKind_1 NF v f = gsX_X9_wordKind_1_L1 NF v f (4294967296 + NF) 101 0 1 0 := by
  simp only [gsX_X9_wordKind_1]
theorem gsX_X9_wordKind_1_q0 {NF : Nat} {v : Nat → Int32} {f : Nat → Nat → Int32} {n1 : Nat} {l1_1 : Int32} {l2_1 : Int32} {l3_1 : Int32} {l4_1 : Int32} (h0 : (102 ≤ l4_1)) : gsX_X9_wordKind_1_L1 NF v f (n1 + 1) l1_1 l2_1 l3_1 l4_1 = 3 := by
  simp only [gsX_X9_wordKind_1_L1, if_pos h0]
theorem gsX_X9_wordKind_1_q1 {NF : Nat} {v : Nat → Int32} {f : Nat → Nat → Int32} {n1 : Nat} {l1_1 : Int32} {l2_1 : Int32} {l3_1 : Int32} {l4_1 : Int32} {r5 : Int32} {t7 : Int32} {t10 : Int32} {t15 : Int32} {t16 : Int32} {t17 : Int32} (h0 : ¬ (102 ≤ l4_1)) (h1 : r5 = gsX_J0_charAt_5068e_1 NF l4_1 v f) (h2 : t7 = (v 3) + l4_1) (h3 : t10 = t7 - l2_1) (h4 : (r5 = 32)) (h5 : (l3_1 = 0)) (h6 : t15 = l1_1 + 1) (h7 : t16 = l4_1 + 1) (h8 : t17 = l4_1 + 1) : gsX_X9_wordKind_1_L1 NF v f (n1 + 1) l1_1 l2_1 l3_1 l4_1 = gsX_X9_wordKind_1_L1 NF v f n1 t15 t16 1 t17 := by
  subst h1 h2 h3 h6 h7 h8
  simp only [gsX_X9_wordKind_1_L1, if_neg h0, if_pos h4, if_pos h5]
theorem gsX_X9_wordKind_1_q2 {NF : Nat} {v : Nat → Int32} {f : Nat → Nat → Int32} {n1 : Nat} {l1_1 : Int32} {l2_1 : Int32} {l3_1 : Int32} {l4_1 : Int32} {r5 : Int32} {t7 : Int32} {t10 : Int32} {t23 : Int32} {t24 : Int32} {t25 : Int32} (h0 : ¬ (102 ≤ l4_1)) (h1 : r5 = gsX_J0_charAt_5068e_1 NF l4_1 v f) (h2 : t7 = (v 3) + l4_1) (h3 : t10 = t7 - l2_1) (h4 : (r5 = 32)) (h5 : ¬ (l3_1 = 0)) (h6 : ¬ (t10 = (v 4))) (h7 : t23 = l1_1 + 1) (h8 : t24 = l4_1 + 1) (h9 : t25 = l4_1 + 1) : gsX_X9_wordKind_1_L1 NF v f (n1 + 1) l1_1 l2_1 l3_1 l4_1 = gsX_X9_wordKind_1_L1 NF v f n1 t23 t24 1 t25 := by
  subst h1 h2 h3 h7 h8 h9
  simp only [gsX_X9_wordKind_1_L1, if_neg h0, if_pos h4, if_neg h5, if_neg h6]
theorem gsX_X9_wordKind_1_q3 {NF : Nat} {v : Nat → Int32} {f : Nat → Nat → Int32} {n1 : Nat} {l1_1 : Int32} {l2_1 : Int32} {l3_1 : Int32} {l4_1 : Int32} {r5 : Int32} {t7 : Int32} {t10 : Int32} (h0 : ¬ (102 ≤ l4_1)) (h1 : r5 = gsX_J0_charAt_5068e_1 NF l4_1 v f) (h2 : t7 = (v 3) + l4_1) (h3 : t10 = t7 - l2_1) (h4 : (r5 = 32)) (h5 : ¬ (l3_1 = 0)) (h6 : (t10 = (v 4))) : gsX_X9_wordKind_1_L1 NF v f (n1 + 1) l1_1 l2_1 l3_1 l4_1 = l1_1 := by
  subst h1 h2 h3
  simp only [gsX_X9_wordKind_1_L1, if_neg h0, if_pos h4, if_neg h5, if_pos h6]
theorem gsX_X9_wordKind_1_q4 {NF : Nat} {v : Nat → Int32} {f : Nat → Nat → Int32} {n1 : Nat} {l1_1 : Int32} {l2_1 : Int32} {l3_1 : Int32} {l4_1 : Int32} {r5 : Int32} {t7 : Int32} {t10 : Int32} {t31 : Int32} (h0 : ¬ (102 ≤ l4_1)) (h1 : r5 = gsX_J0_charAt_5068e_1 NF l4_1 v f) (h2 : t7 = (v 3) + l4_1) (h3 : t10 = t7 - l2_1) (h4 : ¬ (r5 = 32)) (h5 : (l3_1 = 0)) (h6 : t31 = l4_1 + 1) : gsX_X9_wordKind_1_L1 NF v f (n1 + 1) l1_1 l2_1 l3_1 l4_1 = gsX_X9_wordKind_1_L1 NF v f n1 l1_1 l2_1 0 t31 := by
  subst h1 h2 h3 h6
  simp only [gsX_X9_wordKind_1_L1, if_neg h0, if_neg h4, if_pos h5]
theorem gsX_X9_wordKind_1_q5 {NF : Nat} {v : Nat → Int32} {f : Nat → Nat → Int32} {n1 : Nat} {l1_1 : Int32} {l2_1 : Int32} {l3_1 : Int32} {l4_1 : Int32} {r5 : Int32} {t7 : Int32} {t10 : Int32} {t36 : Int32} (h0 : ¬ (102 ≤ l4_1)) (h1 : r5 = gsX_J0_charAt_5068e_1 NF l4_1 v f) (h2 : t7 = (v 3) + l4_1) (h3 : t10 = t7 - l2_1) (h4 : ¬ (r5 = 32)) (h5 : ¬ (l3_1 = 0)) (h6 : ((v 4) ≤ t10)) (h7 : t36 = l4_1 + 1) : gsX_X9_wordKind_1_L1 NF v f (n1 + 1) l1_1 l2_1 l3_1 l4_1 = gsX_X9_wordKind_1_L1 NF v f n1 l1_1 l2_1 0 t36 := by
  subst h1 h2 h3 h7
  simp only [gsX_X9_wordKind_1_L1, if_neg h0, if_neg h4, if_neg h5, if_pos h6]
theorem gsX_X9_wordKind_1_q6 {NF : Nat} {v : Nat → Int32} {f : Nat → Nat → Int32} {n1 : Nat} {l1_1 : Int32} {l2_1 : Int32} {l3_1 : Int32} {l4_1 : Int32} {r5 : Int32} {t7 : Int32} {t10 : Int32} {t40 : Int32} {t44 : Int32} (h0 : ¬ (102 ≤ l4_1)) (h1 : r5 = gsX_J0_charAt_5068e_1 NF l4_1 v f) (h2 : t7 = (v 3) + l4_1) (h3 : t10 = t7 - l2_1) (h4 : ¬ (r5 = 32)) (h5 : ¬ (l3_1 = 0)) (h6 : ¬ ((v 4) ≤ t10)) (h7 : t40 = f 0 (t10).toNatClampNeg) (h8 : ¬ (t40 = r5)) (h9 : t44 = l4_1 + 1) : gsX_X9_wordKind_1_L1 NF v f (n1 + 1) l1_1 l2_1 l3_1 l4_1 = gsX_X9_wordKind_1_L1 NF v f n1 l1_1 l2_1 0 t44 := by
  subst h1 h2 h3 h7 h9
  simp only [gsX_X9_wordKind_1_L1, if_neg h0, if_neg h4, if_neg h5, if_neg h6, if_neg h8]
theorem gsX_X9_wordKind_1_q7 {NF : Nat} {v : Nat → Int32} {f : Nat → Nat → Int32} {n1 : Nat} {l1_1 : Int32} {l2_1 : Int32} {l3_1 : Int32} {l4_1 : Int32} {r5 : Int32} {t7 : Int32} {t10 : Int32} {t40 : Int32} {t48 : Int32} (h0 : ¬ (102 ≤ l4_1)) (h1 : r5 = gsX_J0_charAt_5068e_1 NF l4_1 v f) (h2 : t7 = (v 3) + l4_1) (h3 : t10 = t7 - l2_1) (h4 : ¬ (r5 = 32)) (h5 : ¬ (l3_1 = 0)) (h6 : ¬ ((v 4) ≤ t10)) (h7 : t40 = f 0 (t10).toNatClampNeg) (h8 : (t40 = r5)) (h9 : t48 = l4_1 + 1) : gsX_X9_wordKind_1_L1 NF v f (n1 + 1) l1_1 l2_1 l3_1 l4_1 = gsX_X9_wordKind_1_L1 NF v f n1 l1_1 l2_1 1 t48 := by
  subst h1 h2 h3 h7 h9
  simp only [gsX_X9_wordKind_1_L1, if_neg h0, if_neg h4, if_neg h5, if_neg h6, if_pos h8]
