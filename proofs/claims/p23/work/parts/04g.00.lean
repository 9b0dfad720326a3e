def gsX_X9_hasRoom_1 (NF : Nat) (v : Nat → Int32) (f : Nat → Nat → Int32) : Int32 :=
  let t1 : Int32 := (v 1) + 20
  if 1600 < t1 then
    0
  else
    1
theorem gsX_X9_hasRoom_1_q0 {NF : Nat} {v : Nat → Int32} {f : Nat → Nat → Int32} {t1 : Int32} (h0 : t1 = (v 1) + 20) (h1 : (1600 < t1)) : gsX_X9_hasRoom_1 NF v f = 0 := by
  subst h0
  simp only [gsX_X9_hasRoom_1, if_pos h1]
theorem gsX_X9_hasRoom_1_q1 {NF : Nat} {v : Nat → Int32} {f : Nat → Nat → Int32} {t1 : Int32} (h0 : t1 = (v 1) + 20) (h1 : ¬ (1600 < t1)) : gsX_X9_hasRoom_1 NF v f = 1 := by
  subst h0
  simp only [gsX_X9_hasRoom_1, if_neg h1]
def gsX_X9_append_1_L1 (NF : Nat) (p1 : Int32) : Nat → (Int32) → (Nat → Int32) → (Nat → Nat → Int32) → (Nat → Int32) × (Nat → Nat → Int32)
  | 0, _, _, _ => ((fun _ => 0), (fun _ _ => 0))
  | n1 + 1, l2_1, v1, f1 =>
    if l2_1 < 0 then
      (v1, f1)
    else
      if 1600 ≤ (v1 1) then
        (v1, f1)
      else
        let t4 : Int32 := p1 >>> (l2_1 &&& 31)
        let t5 : Int32 := t4.toInt8.toInt32
        let f6 : Nat → Nat → Int32 := upd2 f1 0 (upd (f1 0) (v1 1).toNatClampNeg (vp_nar .byte t5))
        let t7 : Int32 := (v1 1) + 1
        let t9 : Int32 := l2_1 + (-8)
        gsX_X9_append_1_L1 NF p1 n1 t9 (upd v1 1 t7) f6
def gsX_X9_append_1 (NF : Nat) (p1 : Int32) (v : Nat → Int32) (f : Nat → Nat → Int32) : (Nat → Int32) × (Nat → Nat → Int32) :=
  gsX_X9_append_1_L1 NF p1 (4294967296 + NF) 24 v f
theorem gsX_X9_append_1_q3 {NF : Nat} {p1 : Int32} {v : Nat → Int32} {f : Nat → Nat → Int32}  : gsX_X9_append_1 NF p1 v f = gsX_X9_append_1_L1 NF p1 (4294967296 + NF) 24 v f := by
  simp only [gsX_X9_append_1]
theorem gsX_X9_append_1_q0 {NF : Nat} {p1 : Int32} {n1 : Nat} {l2_1 : Int32} {v1 : Nat → Int32} {f1 : Nat → Nat → Int32} (h0 : (l2_1 < 0)) : gsX_X9_append_1_L1 NF p1 (n1 + 1) l2_1 v1 f1 = (v1, f1) := by
  simp only [gsX_X9_append_1_L1, if_pos h0]
theorem gsX_X9_append_1_q1 {NF : Nat} {p1 : Int32} {n1 : Nat} {l2_1 : Int32} {v1 : Nat → Int32} {f1 : Nat → Nat → Int32} (h0 : ¬ (l2_1 < 0)) (h1 : (1600 ≤ (v1 1))) : gsX_X9_append_1_L1 NF p1 (n1 + 1) l2_1 v1 f1 = (v1, f1) := by
  simp only [gsX_X9_append_1_L1, if_neg h0, if_pos h1]
theorem gsX_X9_append_1_q2 {NF : Nat} {p1 : Int32} {n1 : Nat} {l2_1 : Int32} {v1 : Nat → Int32} {f1 : Nat → Nat → Int32} {t4 : Int32} {t5 : Int32} {f6 : Nat → Nat → Int32} {t7 : Int32} {t9 : Int32} (h0 : ¬ (l2_1 < 0)) (h1 : ¬ (1600 ≤ (v1 1))) (h2 : t4 = p1 >>> (l2_1 &&& 31)) (h3 : t5 = t4.toInt8.toInt32) (h4 : f6 = upd2 f1 0 (upd (f1 0) (v1 1).toNatClampNeg (vp_nar .byte t5))) (h5 : t7 = (v1 1) + 1) (h6 : t9 = l2_1 + (-8)) : gsX_X9_append_1_L1 NF p1 (n1 + 1) l2_1 v1 f1 = gsX_X9_append_1_L1 NF p1 n1 t9 (upd v1 1 t7) f6 := by
  subst h2 h3 h4 h5 h6
  simp only [gsX_X9_append_1_L1, if_neg h0, if_neg h1]
def gsX_X10_feed_1 (NF : Nat) (p1 : Int32) (p2 : Int32) (p3 : Int32) (p4 : Int32) (p5 : Int32) (v : Nat → Int32) (f : Nat → Nat → Int32) : Int32 × (Nat → Int32) × (Nat → Nat → Int32) :=
  if gsX_X9_hasRoom_1 NF v f = 1 then
    match gsX_X9_append_1 NF p1 v f with
    | (v5, f6) =>
      match gsX_X9_append_1 NF p2 v5 f6 with
      | (v8, f9) =>
        match gsX_X9_append_1 NF p3 v8 f9 with
        | (v11, f12) =>
          match gsX_X9_append_1 NF p4 v11 f12 with
          | (v14, f15) =>
            match gsX_X9_append_1 NF p5 v14 f15 with
            | (v17, f18) =>
              ((v17 1), v17, f18)
  else
    ((-1), v, f)
theorem gsX_X10_feed_1_q0 {NF : Nat} {p1 : Int32} {p2 : Int32} {p3 : Int32} {p4 : Int32} {p5 : Int32} {v : Nat → Int32} {f : Nat → Nat → Int32} {v5 : Nat → Int32} {f6 : Nat → Nat → Int32} {v8 : Nat → Int32} {f9 : Nat → Nat → Int32} {v11 : Nat → Int32} {f12 : Nat → Nat → Int32} {v14 : Nat → Int32} {f15 : Nat → Nat → Int32} {v17 : Nat → Int32} {f18 : Nat → Nat → Int32} (h0 : gsX_X9_hasRoom_1 NF v f = 1) (h1 : gsX_X9_append_1 NF p1 v f = (v5, f6)) (h2 : gsX_X9_append_1 NF p2 v5 f6 = (v8, f9)) (h3 : gsX_X9_append_1 NF p3 v8 f9 = (v11, f12)) (h4 : gsX_X9_append_1 NF p4 v11 f12 = (v14, f15)) (h5 : gsX_X9_append_1 NF p5 v14 f15 = (v17, f18)) : gsX_X10_feed_1 NF p1 p2 p3 p4 p5 v f = ((v17 1), v17, f18) := by
  simp only [gsX_X10_feed_1, h0, h1, h2, h3, h4, h5, ite11, ite01, if_true, if_false]
theorem gsX_X10_feed_1_q1 {NF : Nat} {p1 : Int32} {p2 : Int32} {p3 : Int32} {p4 : Int32} {p5 : Int32} {v : Nat → Int32} {f : Nat → Nat → Int32} (h0 : gsX_X9_hasRoom_1 NF v f = 0) : gsX_X10_feed_1 NF p1 p2 p3 p4 p5 v f = ((-1), v, f) := by
  simp only [gsX_X10_feed_1, h0, ite11, ite01, if_true, if_false]
def gsX_X10_end_1 (NF : Nat) (p1 : Int32) (v : Nat → Int32) (f : Nat → Nat → Int32) : Int32 × (Nat → Int32) × (Nat → Nat → Int32) :=
  if p1 < 0 then
    ((-1), v, f)
  else
    if p1 ≤ (v 1) then
      (p1, (upd v 1 p1), f)
    else
      ((-1), v, f)
theorem gsX_X10_end_1_q0 {NF : Nat} {p1 : Int32} {v : Nat → Int32} {f : Nat → Nat → Int32} (h0 : (p1 < 0)) : gsX_X10_end_1 NF p1 v f = ((-1), v, f) := by
  simp only [gsX_X10_end_1, if_pos h0]
theorem gsX_X10_end_1_q1 {NF : Nat} {p1 : Int32} {v : Nat → Int32} {f : Nat → Nat → Int32} (h0 : ¬ (p1 < 0)) (h1 : (p1 ≤ (v 1))) : gsX_X10_end_1 NF p1 v f = (p1, (upd v 1 p1), f) := by
  simp only [gsX_X10_end_1, if_neg h0, if_pos h1]
theorem gsX_X10_end_1_q2 {NF : Nat} {p1 : Int32} {v : Nat → Int32} {f : Nat → Nat → Int32} (h0 : ¬ (p1 < 0)) (h1 : ¬ (p1 ≤ (v 1))) : gsX_X10_end_1 NF p1 v f = ((-1), v, f) := by
  simp only [gsX_X10_end_1, if_neg h0, if_neg h1]
def gsX_X10_fault_1 (NF : Nat) (p1 : Int32) (v : Nat → Int32) (f : Nat → Nat → Int32) : Int32 :=
  if p1 = 0 then
    (v 7)
  else
    if p1 = 1 then
      (v 8)
    else
      (-1)
theorem gsX_X10_fault_1_q0 {NF : Nat} {p1 : Int32} {v : Nat → Int32} {f : Nat → Nat → Int32} (h0 : ¬ (p1 = 0)) (h1 : ¬ (p1 = 1)) : gsX_X10_fault_1 NF p1 v f = (-1) := by
  simp only [gsX_X10_fault_1, if_neg h0, if_neg h1]
theorem gsX_X10_fault_1_q1 {NF : Nat} {p1 : Int32} {v : Nat → Int32} {f : Nat → Nat → Int32} (h0 : ¬ (p1 = 0)) (h1 : (p1 = 1)) : gsX_X10_fault_1 NF p1 v f = (v 8) := by
  simp only [gsX_X10_fault_1, if_neg h0, if_pos h1]
theorem gsX_X10_fault_1_q2 {NF : Nat} {p1 : Int32} {v : Nat → Int32} {f : Nat → Nat → Int32} (h0 : (p1 = 0)) : gsX_X10_fault_1 NF p1 v f = (v 7) := by
  simp only [gsX_X10_fault_1, if_pos h0]
def gsX_X4_clear_1 (NF : Nat) (v : Nat → Int32) (f : Nat → Nat → Int32) : (Nat → Int32) × (Nat → Nat → Int32) :=
  ((upd (upd v 16 0) 17 0), f)
theorem gsX_X4_clear_1_q0 {NF : Nat} {v : Nat → Int32} {f : Nat → Nat → Int32}  : gsX_X4_clear_1 NF v f = ((upd (upd v 16 0) 17 0), f) := by
  simp only [gsX_X4_clear_1]
def gsX_X7_setDefaults_1 (NF : Nat) (v : Nat → Int32) (f : Nat → Nat → Int32) : (Nat → Int32) × (Nat → Nat → Int32) :=
  ((upd (upd (upd (upd (upd v 11 10) 12 150) 13 2) 14 0) 15 0), f)
theorem gsX_X7_setDefaults_1_q0 {NF : Nat} {v : Nat → Int32} {f : Nat → Nat → Int32}  : gsX_X7_setDefaults_1 NF v f = ((upd (upd (upd (upd (upd v 11 10) 12 150) 13 2) 14 0) 15 0), f) := by
  simp only [gsX_X7_setDefaults_1]
def gsX_X7_clear_1 (NF : Nat) (v : Nat → Int32) (f : Nat → Nat → Int32) : (Nat → Int32) × (Nat → Nat → Int32) :=
  match gsX_X4_clear_1 NF (upd (upd v 9 0) 10 0) f with
  | (v2, f3) =>
    match gsX_X7_setDefaults_1 NF v2 f3 with
    | (v5, f6) =>
      (v5, f6)
theorem gsX_X7_clear_1_q0 {NF : Nat} {v : Nat → Int32} {f : Nat → Nat → Int32} {v2 : Nat → Int32} {f3 : Nat → Nat → Int32} {v5 : Nat → Int32} {f6 : Nat → Nat → Int32} (h0 : gsX_X4_clear_1 NF (upd (upd v 9 0) 10 0) f = (v2, f3)) (h1 : gsX_X7_setDefaults_1 NF v2 f3 = (v5, f6)) : gsX_X7_clear_1 NF v f = (v5, f6) := by
  simp only [gsX_X7_clear_1, h0, h1]
def gsX_X9_isLetter_1 (NF : Nat) (p1 : Int32) (v : Nat → Int32) (f : Nat → Nat → Int32) : Int32 :=
  if p1 < 0 then
    0
  else
    if (v 1) ≤ p1 then
      0
    else
      let t7 : Int32 := f 0 (p1).toNatClampNeg
      if t7 < 97 then
        0
      else
        let t9 : Int32 := f 0 (p1).toNatClampNeg
        if 122 < t9 then
          0
        else
          1
theorem gsX_X9_isLetter_1_q0 {NF : Nat} {p1 : Int32} {v : Nat → Int32} {f : Nat → Nat → Int32} (h0 : (p1 < 0)) : gsX_X9_isLetter_1 NF p1 v f = 0 := by
  simp only [gsX_X9_isLetter_1, if_pos h0]
theorem gsX_X9_isLetter_1_q1 {NF : Nat} {p1 : Int32} {v : Nat → Int32} {f : Nat → Nat → Int32} (h0 : ¬ (p1 < 0)) (h1 : ((v 1) ≤ p1)) : gsX_X9_isLetter_1 NF p1 v f = 0 := by
  simp only [gsX_X9_isLetter_1, if_neg h0, if_pos h1]
theorem gsX_X9_isLetter_1_q2 {NF : Nat} {p1 : Int32} {v : Nat → Int32} {f : Nat → Nat → Int32} {t7 : Int32} (h0 : ¬ (p1 < 0)) (h1 : ¬ ((v 1) ≤ p1)) (h2 : t7 = f 0 (p1).toNatClampNeg) (h3 : (t7 < 97)) : gsX_X9_isLetter_1 NF p1 v f = 0 := by
  subst h2
  simp only [gsX_X9_isLetter_1, if_neg h0, if_neg h1, if_pos h3]
theorem gsX_X9_isLetter_1_q3 {NF : Nat} {p1 : Int32} {v : Nat → Int32} {f : Nat → Nat → Int32} {t7 : Int32} {t9 : Int32} (h0 : ¬ (p1 < 0)) (h1 : ¬ ((v 1) ≤ p1)) (h2 : t7 = f 0 (p1).toNatClampNeg) (h3 : ¬ (t7 < 97)) (h4 : t9 = f 0 (p1).toNatClampNeg) (h5 : (122 < t9)) : gsX_X9_isLetter_1 NF p1 v f = 0 := by
  subst h2 h4
  simp only [gsX_X9_isLetter_1, if_neg h0, if_neg h1, if_neg h3, if_pos h5]
theorem gsX_X9_isLetter_1_q4 {NF : Nat} {p1 : Int32} {v : Nat → Int32} {f : Nat → Nat → Int32} {t7 : Int32} {t9 : Int32} (h0 : ¬ (p1 < 0)) (h1 : ¬ ((v 1) ≤ p1)) (h2 : t7 = f 0 (p1).toNatClampNeg) (h3 : ¬ (t7 < 97)) (h4 : t9 = f 0 (p1).toNatClampNeg) (h5 : ¬ (122 < t9)) : gsX_X9_isLetter_1 NF p1 v f = 1 := by
  subst h2 h4
  simp only [gsX_X9_isLetter_1, if_neg h0, if_neg h1, if_neg h3, if_neg h5]
def gsX_J0_coder_7d493_1 (NF : Nat) (v : Nat → Int32) (f : Nat → Nat → Int32) : Int32 :=
  0
theorem gsX_J0_coder_7d493_1_q0 {NF : Nat} {v : Nat → Int32} {f : Nat → Nat → Int32}  : gsX_J0_coder_7d493_1 NF v f = 0 := by
  simp only [gsX_J0_coder_7d493_1]
def gsX_J0_length_8abf5_1 (NF : Nat) (v : Nat → Int32) (f : Nat → Nat → Int32) : Int32 :=
  102
theorem gsX_J0_length_8abf5_1_q0 {NF : Nat} {v : Nat → Int32} {f : Nat → Nat → Int32}  : gsX_J0_length_8abf5_1 NF v f = 102 := by
  simp only [gsX_J0_length_8abf5_1]
def gsX_J0_isLatin1_aae02_1 (NF : Nat) (v : Nat → Int32) (f : Nat → Nat → Int32) : Int32 :=
  1
theorem gsX_J0_isLatin1_aae02_1_q0 {NF : Nat} {v : Nat → Int32} {f : Nat → Nat → Int32}  : gsX_J0_isLatin1_aae02_1 NF v f = 1 := by
  simp only [gsX_J0_isLatin1_aae02_1]
def gsX_J1_charAt_3b067_1 (NF : Nat) (p1 : Int32) (v : Nat → Int32) (f : Nat → Nat → Int32) : Int32 :=
  let t1 : Int32 := (sBYT.getD 1 []).getD (p1).toNatClampNeg 0
  let t2 : Int32 := t1 &&& 255
  let t3 : Int32 := (t2.toUInt32 % 65536).toInt32
  t3
theorem gsX_J1_charAt_3b067_1_q0 {NF : Nat} {p1 : Int32} {v : Nat → Int32} {f : Nat → Nat → Int32} {t1 : Int32} {t2 : Int32} {t3 : Int32} (h0 : t1 = (sBYT.getD 1 []).getD (p1).toNatClampNeg 0) (h1 : t2 = t1 &&& 255) (h2 : t3 = (t2.toUInt32 % 65536).toInt32) : gsX_J1_charAt_3b067_1 NF p1 v f = t3 := by
  subst h0 h1 h2
  simp only [gsX_J1_charAt_3b067_1]
def gsX_J0_charAt_5068e_1 (NF : Nat) (p1 : Int32) (v : Nat → Int32) (f : Nat → Nat → Int32) : Int32 :=
  let r3 : Int32 := gsX_J1_charAt_3b067_1 NF p1 v f
  r3
theorem gsX_J0_charAt_5068e_1_q0 {NF : Nat} {p1 : Int32} {v : Nat → Int32} {f : Nat → Nat → Int32} {r3 : Int32} (h0 : r3 = gsX_J1_charAt_3b067_1 NF p1 v f) : gsX_J0_charAt_5068e_1 NF p1 v f = r3 := by
  subst h0
  simp only [gsX_J0_charAt_5068e_1]
def gsX_X9_wordKind_1_L1 (NF : Nat) (v : Nat → Int32) (f : Nat → Nat → Int32) : Nat → (Int32) → (Int32) → (Int32) → (Int32) → Int32
  | 0, _, _, _, _ => 0
  | n1 + 1, l1_1, l2_1, l3_1, l4_1 =>
    if 102 ≤ l4_1 then
      3
    else
      let r5 : Int32 := gsX_J0_charAt_5068e_1 NF l4_1 v f
      let t7 : Int32 := (v 3) + l4_1
      let t10 : Int32 := t7 - l2_1
      if r5 = 32 then
        if l3_1 = 0 then
          let t15 : Int32 := l1_1 + 1
          let t16 : Int32 := l4_1 + 1
          let t17 : Int32 := l4_1 + 1
          gsX_X9_wordKind_1_L1 NF v f n1 t15 t16 1 t17
        else
          if t10 = (v 4) then
            l1_1
          else
            let t23 : Int32 := l1_1 + 1
            let t24 : Int32 := l4_1 + 1
            let t25 : Int32 := l4_1 + 1
            gsX_X9_wordKind_1_L1 NF v f n1 t23 t24 1 t25
      else
        if l3_1 = 0 then
          let t31 : Int32 := l4_1 + 1
          gsX_X9_wordKind_1_L1 NF v f n1 l1_1 l2_1 0 t31
        else
          if (v 4) ≤ t10 then
            let t36 : Int32 := l4_1 + 1
            gsX_X9_wordKind_1_L1 NF v f n1 l1_1 l2_1 0 t36
          else
            let t40 : Int32 := f 0 (t10).toNatClampNeg
            if t40 = r5 then
              let t48 : Int32 := l4_1 + 1
              gsX_X9_wordKind_1_L1 NF v f n1 l1_1 l2_1 1 t48
            else
              let t44 : Int32 := l4_1 + 1
              gsX_X9_wordKind_1_L1 NF v f n1 l1_1 l2_1 0 t44
def gsX_X9_wordKind_1 (NF : Nat) (v : Nat → Int32) (f : Nat → Nat → Int32) : Int32 :=
  gsX_X9_wordKind_1_L1 NF v f (4294967296 + NF) 101 0 1 0
theorem gsX_X9_wordKind_1_q8 {NF : Nat} {v : Nat → Int32} {f : Nat → Nat → Int32}  : gsX_X9_wordKind_1 NF v f = gsX_X9_wordKind_1_L1 NF v f (4294967296 + NF) 101 0 1 0 := by
  simp only [gsX_X9_wordKind_1]
theorem gsX_X9_wordKind_1_q0 {NF : Nat} {v : Nat → Int32} {f : Nat → Nat → Int32} {n1 : Nat} {l1_1 : Int32} {l2_1 : Int32} {l3_1 : Int32} {l4_1 : Int32} (h0 : (102 ≤ l4_1)) : gsX_X9_wordKind_1_L1 NF v f (n1 + 1) l1_1 l2_1 l3_1 l4_1 = 3 := by
  simp only [gsX_X9_wordKind_1_L1, if_pos h0]
theorem gsX_X9_wordKind_1_q1 {NF : Nat} {v : Nat → Int32} {f : Nat → Nat → Int32} {n1 : Nat} {l1_1 : Int32} {l2_1 : Int32} {l3_1 : Int32} {l4_1 : Int32} {r5 : Int32} {t7 : Int32} {t10 : Int32} {t15 : Int32} {t16 : Int32} {t17 : Int32} (h0 : ¬ (102 ≤ l4_1)) (h1 : r5 = gsX_J0_charAt_5068e_1 NF l4_1 v f) (h2 : t7 = (v 3) + l4_1) (h3 : t10 = t7 - l2_1) (h4 : (r5 = 32)) (h5 : (l3_1 = 0)) (h6 : t15 = l1_1 + 1) (h7 : t16 = l4_1 + 1) (h8 : t17 = l4_1 + 1) : gsX_X9_wordKind_1_L1 NF v f (n1 + 1) l1_1 l2_1 l3_1 l4_1 = gsX_X9_wordKind_1_L1 NF v f n1 t15 t16 1 t17 := by
  subst h1 h2 h3 h6 h7 h8
  simp only [gsX_X9_wordKind_1_L1, if_neg h0, if_pos h4, if_pos h5]
theorem gsX_X9_wordKind_1_q2 {NF : Nat} {v : Nat → Int32} {f : Nat → Nat → Int32} {n1 : Nat} {l1_1 : Int32} {l2_1 : Int32} {l3_1 : Int32} {l4_1 : Int32} {r5 : Int32} {t7 : Int32} {t10 : Int32} {t23 : Int32} {t24 : Int32} {t25 : Int32} (h0 : ¬ (102 ≤ l4_1)) (h1 : r5 = gsX_J0_charAt_5068e_1 NF l4_1 v f) (h2 : t7 = (v 3) + l4_1) (h3 : t10 = t7 - l2_1) (h4 : (r5 = 32)) (h5 : ¬ (l3_1 = 0)) (h6 : ¬ (t10 = (v 4))) (h7 : t23 = l1_1 + 1) (h8 : t24 = l4_1 + 1) (h9 : t25 = l4_1 + 1) : gsX_X9_wordKind_1_L1 NF v f (n1 + 1) l1_1 l2_1 l3_1 l4_1 = gsX_X9_wordKind_1_L1 NF v f n1 t23 t24 1 t25 := by
  subst h1 h2 h3 h7 h8 h9
  simp only [gsX_X9_wordKind_1_L1, if_neg h0, if_pos h4, if_neg h5, if_neg h6]
theorem gsX_X9_wordKind_1_q3 {NF : Nat} {v : Nat → Int32} {f : Nat → Nat → Int32} {n1 : Nat} {l1_1 : Int32} {l2_1 : Int32} {l3_1 : Int32} {l4_1 : Int32} {r5 : Int32} {t7 : Int32} {t10 : Int32} (h0 : ¬ (102 ≤ l4_1)) (h1 : r5 = gsX_J0_charAt_5068e_1 NF l4_1 v f) (h2 : t7 = (v 3) + l4_1) (h3 : t10 = t7 - l2_1) (h4 : (r5 = 32)) (h5 : ¬ (l3_1 = 0)) (h6 : (t10 = (v 4))) : gsX_X9_wordKind_1_L1 NF v f (n1 + 1) l1_1 l2_1 l3_1 l4_1 = l1_1 := by
  subst h1 h2 h3
  simp only [gsX_X9_wordKind_1_L1, if_neg h0, if_pos h4, if_neg h5, if_pos h6]
theorem gsX_X9_wordKind_1_q4 {NF : Nat} {v : Nat → Int32} {f : Nat → Nat → Int32} {n1 : Nat} {l1_1 : Int32} {l2_1 : Int32} {l3_1 : Int32} {l4_1 : Int32} {r5 : Int32} {t7 : Int32} {t10 : Int32} {t31 : Int32} (h0 : ¬ (102 ≤ l4_1)) (h1 : r5 = gsX_J0_charAt_5068e_1 NF l4_1 v f) (h2 : t7 = (v 3) + l4_1) (h3 : t10 = t7 - l2_1) (h4 : ¬ (r5 = 32)) (h5 : (l3_1 = 0)) (h6 : t31 = l4_1 + 1) : gsX_X9_wordKind_1_L1 NF v f (n1 + 1) l1_1 l2_1 l3_1 l4_1 = gsX_X9_wordKind_1_L1 NF v f n1 l1_1 l2_1 0 t31 := by
  subst h1 h2 h3 h6
  simp only [gsX_X9_wordKind_1_L1, if_neg h0, if_neg h4, if_pos h5]
theorem gsX_X9_wordKind_1_q5 {NF : Nat} {v : Nat → Int32} {f : Nat → Nat → Int32} {n1 : Nat} {l1_1 : Int32} {l2_1 : Int32} {l3_1 : Int32} {l4_1 : Int32} {r5 : Int32} {t7 : Int32} {t10 : Int32} {t36 : Int32} (h0 : ¬ (102 ≤ l4_1)) (h1 : r5 = gsX_J0_charAt_5068e_1 NF l4_1 v f) (h2 : t7 = (v 3) + l4_1) (h3 : t10 = t7 - l2_1) (h4 : ¬ (r5 = 32)) (h5 : ¬ (l3_1 = 0)) (h6 : ((v 4) ≤ t10)) (h7 : t36 = l4_1 + 1) : gsX_X9_wordKind_1_L1 NF v f (n1 + 1) l1_1 l2_1 l3_1 l4_1 = gsX_X9_wordKind_1_L1 NF v f n1 l1_1 l2_1 0 t36 := by
  subst h1 h2 h3 h7
  simp only [gsX_X9_wordKind_1_L1, if_neg h0, if_neg h4, if_neg h5, if_pos h6]
theorem gsX_X9_wordKind_1_q6 {NF : Nat} {v : Nat → Int32} {f : Nat → Nat → Int32} {n1 : Nat} {l1_1 : Int32} {l2_1 : Int32} {l3_1 : Int32} {l4_1 : Int32} {r5 : Int32} {t7 : Int32} {t10 : Int32} {t40 : Int32} {t44 : Int32} (h0 : ¬ (102 ≤ l4_1)) (h1 : r5 = gsX_J0_charAt_5068e_1 NF l4_1 v f) (h2 : t7 = (v 3) + l4_1) (h3 : t10 = t7 - l2_1) (h4 : ¬ (r5 = 32)) (h5 : ¬ (l3_1 = 0)) (h6 : ¬ ((v 4) ≤ t10)) (h7 : t40 = f 0 (t10).toNatClampNeg) (h8 : ¬ (t40 = r5)) (h9 : t44 = l4_1 + 1) : gsX_X9_wordKind_1_L1 NF v f (n1 + 1) l1_1 l2_1 l3_1 l4_1 = gsX_X9_wordKind_1_L1 NF v f n1 l1_1 l2_1 0 t44 := by
  subst h1 h2 h3 h7 h9
  simp only [gsX_X9_wordKind_1_L1, if_neg h0, if_neg h4, if_neg h5, if_neg h6, if_neg h8]
theorem gsX_X9_wordKind_1_q7 {NF : Nat} {v : Nat → Int32} {f : Nat → Nat → Int32} {n1 : Nat} {l1_1 : Int32} {l2_1 : Int32} {l3_1 : Int32} {l4_1 : Int32} {r5 : Int32} {t7 : Int32} {t10 : Int32} {t40 : Int32} {t48 : Int32} (h0 : ¬ (102 ≤ l4_1)) (h1 : r5 = gsX_J0_charAt_5068e_1 NF l4_1 v f) (h2 : t7 = (v 3) + l4_1) (h3 : t10 = t7 - l2_1) (h4 : ¬ (r5 = 32)) (h5 : ¬ (l3_1 = 0)) (h6 : ¬ ((v 4) ≤ t10)) (h7 : t40 = f 0 (t10).toNatClampNeg) (h8 : (t40 = r5)) (h9 : t48 = l4_1 + 1) : gsX_X9_wordKind_1_L1 NF v f (n1 + 1) l1_1 l2_1 l3_1 l4_1 = gsX_X9_wordKind_1_L1 NF v f n1 l1_1 l2_1 1 t48 := by
  subst h1 h2 h3 h7 h9
  simp only [gsX_X9_wordKind_1_L1, if_neg h0, if_neg h4, if_neg h5, if_neg h6, if_pos h8]
def gsX_X9_isDigit_1 (NF : Nat) (p1 : Int32) (v : Nat → Int32) (f : Nat → Nat → Int32) : Int32 :=
  if p1 < 0 then
    0
  else
    if (v 1) ≤ p1 then
      0
    else
      let t7 : Int32 := f 0 (p1).toNatClampNeg
      if t7 < 48 then
        0
      else
        let t9 : Int32 := f 0 (p1).toNatClampNeg
        if 57 < t9 then
          0
        else
          1
theorem gsX_X9_isDigit_1_q0 {NF : Nat} {p1 : Int32} {v : Nat → Int32} {f : Nat → Nat → Int32} (h0 : (p1 < 0)) : gsX_X9_isDigit_1 NF p1 v f = 0 := by
  simp only [gsX_X9_isDigit_1, if_pos h0]
theorem gsX_X9_isDigit_1_q1 {NF : Nat} {p1 : Int32} {v : Nat → Int32} {f : Nat → Nat → Int32} (h0 : ¬ (p1 < 0)) (h1 : ((v 1) ≤ p1)) : gsX_X9_isDigit_1 NF p1 v f = 0 := by
  simp only [gsX_X9_isDigit_1, if_neg h0, if_pos h1]
theorem gsX_X9_isDigit_1_q2 {NF : Nat} {p1 : Int32} {v : Nat → Int32} {f : Nat → Nat → Int32} {t7 : Int32} (h0 : ¬ (p1 < 0)) (h1 : ¬ ((v 1) ≤ p1)) (h2 : t7 = f 0 (p1).toNatClampNeg) (h3 : (t7 < 48)) : gsX_X9_isDigit_1 NF p1 v f = 0 := by
  subst h2
  simp only [gsX_X9_isDigit_1, if_neg h0, if_neg h1, if_pos h3]
theorem gsX_X9_isDigit_1_q3 {NF : Nat} {p1 : Int32} {v : Nat → Int32} {f : Nat → Nat → Int32} {t7 : Int32} {t9 : Int32} (h0 : ¬ (p1 < 0)) (h1 : ¬ ((v 1) ≤ p1)) (h2 : t7 = f 0 (p1).toNatClampNeg) (h3 : ¬ (t7 < 48)) (h4 : t9 = f 0 (p1).toNatClampNeg) (h5 : (57 < t9)) : gsX_X9_isDigit_1 NF p1 v f = 0 := by
  subst h2 h4
  simp only [gsX_X9_isDigit_1, if_neg h0, if_neg h1, if_neg h3, if_pos h5]
theorem gsX_X9_isDigit_1_q4 {NF : Nat} {p1 : Int32} {v : Nat → Int32} {f : Nat → Nat → Int32} {t7 : Int32} {t9 : Int32} (h0 : ¬ (p1 < 0)) (h1 : ¬ ((v 1) ≤ p1)) (h2 : t7 = f 0 (p1).toNatClampNeg) (h3 : ¬ (t7 < 48)) (h4 : t9 = f 0 (p1).toNatClampNeg) (h5 : ¬ (57 < t9)) : gsX_X9_isDigit_1 NF p1 v f = 1 := by
  subst h2 h4
  simp only [gsX_X9_isDigit_1, if_neg h0, if_neg h1, if_neg h3, if_neg h5]
def gsX_J0_isLatin1_aae02_2 (NF : Nat) (v : Nat → Int32) (f : Nat → Nat → Int32) : Int32 :=
  1
theorem gsX_J0_isLatin1_aae02_2_q0 {NF : Nat} {v : Nat → Int32} {f : Nat → Nat → Int32}  : gsX_J0_isLatin1_aae02_2 NF v f = 1 := by
  simp only [gsX_J0_isLatin1_aae02_2]
def gsX_J0_coder_7d493_2 (NF : Nat) (v : Nat → Int32) (f : Nat → Nat → Int32) : Int32 :=
  0
theorem gsX_J0_coder_7d493_2_q0 {NF : Nat} {v : Nat → Int32} {f : Nat → Nat → Int32}  : gsX_J0_coder_7d493_2 NF v f = 0 := by
  simp only [gsX_J0_coder_7d493_2]
def gsX_J0_length_8abf5_2 (NF : Nat) (v : Nat → Int32) (f : Nat → Nat → Int32) : Int32 :=
  11
theorem gsX_J0_length_8abf5_2_q0 {NF : Nat} {v : Nat → Int32} {f : Nat → Nat → Int32}  : gsX_J0_length_8abf5_2 NF v f = 11 := by
  simp only [gsX_J0_length_8abf5_2]
def gsX_J1_canEncode_9a6ad_1 (NF : Nat) (p0 : Int32) (v : Nat → Int32) (f : Nat → Nat → Int32) : Int32 :=
  if p0 < 0 then
    0
  else
    if 255 < p0 then
      0
    else
      1
theorem gsX_J1_canEncode_9a6ad_1_q0 {NF : Nat} {p0 : Int32} {v : Nat → Int32} {f : Nat → Nat → Int32} (h0 : (p0 < 0)) : gsX_J1_canEncode_9a6ad_1 NF p0 v f = 0 := by
  simp only [gsX_J1_canEncode_9a6ad_1, if_pos h0]
theorem gsX_J1_canEncode_9a6ad_1_q1 {NF : Nat} {p0 : Int32} {v : Nat → Int32} {f : Nat → Nat → Int32} (h0 : ¬ (p0 < 0)) (h1 : (255 < p0)) : gsX_J1_canEncode_9a6ad_1 NF p0 v f = 0 := by
  simp only [gsX_J1_canEncode_9a6ad_1, if_neg h0, if_pos h1]
theorem gsX_J1_canEncode_9a6ad_1_q2 {NF : Nat} {p0 : Int32} {v : Nat → Int32} {f : Nat → Nat → Int32} (h0 : ¬ (p0 < 0)) (h1 : ¬ (255 < p0)) : gsX_J1_canEncode_9a6ad_1 NF p0 v f = 1 := by
  simp only [gsX_J1_canEncode_9a6ad_1, if_neg h0, if_neg h1]
def gsX_J1_indexOfChar_4cfef_1_L2 (NF : Nat) (p3 : Int32) (t1 : Int32) : Nat → (Int32) → Int32
  | 0, _ => 0
  | n2 + 1, l5_2 =>
    if p3 ≤ l5_2 then
      (-1)
    else
      let t8 : Int32 := (sBYT.getD 0 []).getD (l5_2).toNatClampNeg 0
      if t8 = t1 then
        l5_2
      else
        let t12 : Int32 := l5_2 + 1
        gsX_J1_indexOfChar_4cfef_1_L2 NF p3 t1 n2 t12
def gsX_J1_indexOfChar_4cfef_1 (NF : Nat) (p1 : Int32) (p2 : Int32) (p3 : Int32) (v : Nat → Int32) (f : Nat → Nat → Int32) : Int32 :=
  let t1 : Int32 := p1.toInt8.toInt32
  gsX_J1_indexOfChar_4cfef_1_L2 NF p3 t1 (4294967296 + NF) p2
theorem gsX_J1_indexOfChar_4cfef_1_q3 {NF : Nat} {p1 : Int32} {p2 : Int32} {p3 : Int32} {v : Nat → Int32} {f : Nat → Nat → Int32} {t1 : Int32} (h0 : t1 = p1.toInt8.toInt32) : gsX_J1_indexOfChar_4cfef_1 NF p1 p2 p3 v f = gsX_J1_indexOfChar_4cfef_1_L2 NF p3 t1 (4294967296 + NF) p2 := by
  subst h0
  simp only [gsX_J1_indexOfChar_4cfef_1]
theorem gsX_J1_indexOfChar_4cfef_1_q0 {NF : Nat} {p3 : Int32} {t1 : Int32} {n2 : Nat} {l5_2 : Int32} (h0 : (p3 ≤ l5_2)) : gsX_J1_indexOfChar_4cfef_1_L2 NF p3 t1 (n2 + 1) l5_2 = (-1) := by
  simp only [gsX_J1_indexOfChar_4cfef_1_L2, if_pos h0]
theorem gsX_J1_indexOfChar_4cfef_1_q1 {NF : Nat} {p3 : Int32} {t1 : Int32} {n2 : Nat} {l5_2 : Int32} {t8 : Int32} {t12 : Int32} (h0 : ¬ (p3 ≤ l5_2)) (h1 : t8 = (sBYT.getD 0 []).getD (l5_2).toNatClampNeg 0) (h2 : ¬ (t8 = t1)) (h3 : t12 = l5_2 + 1) : gsX_J1_indexOfChar_4cfef_1_L2 NF p3 t1 (n2 + 1) l5_2 = gsX_J1_indexOfChar_4cfef_1_L2 NF p3 t1 n2 t12 := by
  subst h1 h3
  simp only [gsX_J1_indexOfChar_4cfef_1_L2, if_neg h0, if_neg h2]
theorem gsX_J1_indexOfChar_4cfef_1_q2 {NF : Nat} {p3 : Int32} {t1 : Int32} {n2 : Nat} {l5_2 : Int32} {t8 : Int32} (h0 : ¬ (p3 ≤ l5_2)) (h1 : t8 = (sBYT.getD 0 []).getD (l5_2).toNatClampNeg 0) (h2 : (t8 = t1)) : gsX_J1_indexOfChar_4cfef_1_L2 NF p3 t1 (n2 + 1) l5_2 = l5_2 := by
  subst h1
  simp only [gsX_J1_indexOfChar_4cfef_1_L2, if_neg h0, if_pos h2]
def gsX_J1_indexOf_4cfef_1 (NF : Nat) (p1 : Int32) (v : Nat → Int32) (f : Nat → Nat → Int32) : Int32 :=
  if gsX_J1_canEncode_9a6ad_1 NF p1 v f = 1 then
    let t4 : Int32 := if (0 : Int32) < (0 : Int32) then (0 : Int32) else (0 : Int32)
    let t5 : Int32 := if (11 : Int32) < (11 : Int32) then (11 : Int32) else (11 : Int32)
    if t4 < t5 then
      let r9 : Int32 := gsX_J1_indexOfChar_4cfef_1 NF p1 t4 t5 v f
      r9
    else
      0
  else
    (-1)
theorem gsX_J1_indexOf_4cfef_1_q0 {NF : Nat} {p1 : Int32} {v : Nat → Int32} {f : Nat → Nat → Int32} {t4 : Int32} {t5 : Int32} {r9 : Int32} (h0 : gsX_J1_canEncode_9a6ad_1 NF p1 v f = 1) (h1 : t4 = if (0 : Int32) < (0 : Int32) then (0 : Int32) else (0 : Int32)) (h2 : t5 = if (11 : Int32) < (11 : Int32) then (11 : Int32) else (11 : Int32)) (h3 : (t4 < t5)) (h4 : r9 = gsX_J1_indexOfChar_4cfef_1 NF p1 t4 t5 v f) : gsX_J1_indexOf_4cfef_1 NF p1 v f = r9 := by
  subst h1 h2 h4
  simp only [gsX_J1_indexOf_4cfef_1, h0, if_pos h3, ite11, ite01, if_true, if_false]
theorem gsX_J1_indexOf_4cfef_1_q1 {NF : Nat} {p1 : Int32} {v : Nat → Int32} {f : Nat → Nat → Int32} (h0 : gsX_J1_canEncode_9a6ad_1 NF p1 v f = 0) : gsX_J1_indexOf_4cfef_1 NF p1 v f = (-1) := by
  simp only [gsX_J1_indexOf_4cfef_1, h0, ite11, ite01, if_true, if_false]
def gsX_J0_indexOf_7cf53_1 (NF : Nat) (p1 : Int32) (v : Nat → Int32) (f : Nat → Nat → Int32) : Int32 :=
  let r5 : Int32 := gsX_J1_indexOf_4cfef_1 NF p1 v f
  r5
theorem gsX_J0_indexOf_7cf53_1_q0 {NF : Nat} {p1 : Int32} {v : Nat → Int32} {f : Nat → Nat → Int32} {r5 : Int32} (h0 : r5 = gsX_J1_indexOf_4cfef_1 NF p1 v f) : gsX_J0_indexOf_7cf53_1 NF p1 v f = r5 := by
  subst h0
  simp only [gsX_J0_indexOf_7cf53_1]
def gsX_J0_indexOf_0f7a4_1 (NF : Nat) (p1 : Int32) (v : Nat → Int32) (f : Nat → Nat → Int32) : Int32 :=
  let r1 : Int32 := gsX_J0_indexOf_7cf53_1 NF p1 v f
  r1
theorem gsX_J0_indexOf_0f7a4_1_q0 {NF : Nat} {p1 : Int32} {v : Nat → Int32} {f : Nat → Nat → Int32} {r1 : Int32} (h0 : r1 = gsX_J0_indexOf_7cf53_1 NF p1 v f) : gsX_J0_indexOf_0f7a4_1 NF p1 v f = r1 := by
  subst h0
  simp only [gsX_J0_indexOf_0f7a4_1]
def gsX_X9_advance_1_J10 (NF : Nat) (f9 : Nat → Nat → Int32) (v9 : Nat → Int32) : (Nat → Int32) × (Nat → Nat → Int32) :=
  let t11 : Int32 := (v9 4) - (v9 3)
  if t11 ≤ 8 then
    let r15 : Int32 := gsX_X9_wordKind_1 NF v9 f9
    ((upd v9 2 r15), f9)
  else
    ((upd v9 2 1), f9)
def gsX_X9_advance_1_L9 (NF : Nat) (v : Nat → Int32) : Nat → (Nat → Int32) → (Nat → Nat → Int32) → (Nat → Int32) × (Nat → Nat → Int32)
  | 0, _, _ => ((fun _ => 0), (fun _ _ => 0))
  | n9 + 1, v9, f9 =>
    if (v 1) ≤ (v9 4) then
      gsX_X9_advance_1_J10 NF f9 v9
    else
      if gsX_X9_isLetter_1 NF (v9 4) v9 f9 = 1 then
        let t23 : Int32 := (v9 4) + 1
        gsX_X9_advance_1_L9 NF v n9 (upd v9 4 t23) f9
      else
        gsX_X9_advance_1_J10 NF f9 v9
def gsX_X9_advance_1_J28 (NF : Nat) (f27 : Nat → Nat → Int32) (v27 : Nat → Int32) : (Nat → Int32) × (Nat → Nat → Int32) :=
  let t29 : Int32 := (v27 4) - (v27 3)
  if 4 < t29 then
    ((upd v27 2 1), f27)
  else
    if gsX_X9_isLetter_1 NF (v27 4) v27 f27 = 1 then
      ((upd v27 2 1), f27)
    else
      ((upd v27 2 2), f27)
def gsX_X9_advance_1_L27 (NF : Nat) (v : Nat → Int32) : Nat → (Nat → Int32) → (Nat → Nat → Int32) → (Nat → Int32) × (Nat → Nat → Int32)
  | 0, _, _ => ((fun _ => 0), (fun _ _ => 0))
  | n27 + 1, v27, f27 =>
    if (v 1) ≤ (v27 4) then
      gsX_X9_advance_1_J28 NF f27 v27
    else
      if gsX_X9_isDigit_1 NF (v27 4) v27 f27 = 1 then
        let t42 : Int32 := (v27 5) * 10
        let t43 : Int32 := f27 0 ((v27 4)).toNatClampNeg
        let t44 : Int32 := t42 + t43
        let t45 : Int32 := t44 - 48
        let t46 : Int32 := (v27 4) + 1
        gsX_X9_advance_1_L27 NF v n27 (upd (upd v27 5 t45) 4 t46) f27
      else
        gsX_X9_advance_1_J28 NF f27 v27
def gsX_X9_advance_1_J2 (NF : Nat) (v : Nat → Int32) (f1 : Nat → Nat → Int32) (v1 : Nat → Int32) : (Nat → Int32) × (Nat → Nat → Int32) :=
  if (v1 3) < (v 1) then
    if gsX_X9_isLetter_1 NF (v1 3) (upd v1 4 (v1 3)) f1 = 1 then
      gsX_X9_advance_1_L9 NF v (4294967296 + NF) (upd v1 4 (v1 3)) f1
    else
      if gsX_X9_isDigit_1 NF (v1 3) (upd v1 4 (v1 3)) f1 = 1 then
        gsX_X9_advance_1_L27 NF v (4294967296 + NF) (upd (upd v1 4 (v1 3)) 5 0) f1
      else
        let t47 : Int32 := (v1 3) + 1
        let t48 : Int32 := f1 0 ((v1 3)).toNatClampNeg
        let t49 : Int32 := t48 &&& 255
        let t50 : Int32 := (t49.toUInt32 % 65536).toInt32
        let r51 : Int32 := gsX_J0_indexOf_0f7a4_1 NF t50 (upd (upd v1 4 (v1 3)) 4 t47) f1
        if r51 < 0 then
          ((upd (upd (upd v1 4 (v1 3)) 4 t47) 2 1), f1)
        else
          let t54 : Int32 := f1 0 ((v1 3)).toNatClampNeg
          ((upd (upd (upd v1 4 (v1 3)) 4 t47) 2 t54), f1)
  else
    ((upd (upd v1 4 (v1 3)) 2 0), f1)
def gsX_X9_advance_1_L1 (NF : Nat) (v : Nat → Int32) : Nat → (Nat → Int32) → (Nat → Nat → Int32) → (Nat → Int32) × (Nat → Nat → Int32)
  | 0, _, _ => ((fun _ => 0), (fun _ _ => 0))
  | n1 + 1, v1, f1 =>
    if (v 1) ≤ (v1 3) then
      gsX_X9_advance_1_J2 NF v f1 v1
    else
      let t62 : Int32 := f1 0 ((v1 3)).toNatClampNeg
      if t62 = 32 then
        let t64 : Int32 := (v1 3) + 1
        gsX_X9_advance_1_L1 NF v n1 (upd v1 3 t64) f1
      else
        let t65 : Int32 := f1 0 ((v1 3)).toNatClampNeg
        if t65 = 10 then
          let t67 : Int32 := (v1 3) + 1
          gsX_X9_advance_1_L1 NF v n1 (upd v1 3 t67) f1
        else
          gsX_X9_advance_1_J2 NF v f1 v1
def gsX_X9_advance_1 (NF : Nat) (v : Nat → Int32) (f : Nat → Nat → Int32) : (Nat → Int32) × (Nat → Nat → Int32) :=
  gsX_X9_advance_1_L1 NF v (4294967296 + NF) (upd v 3 (v 4)) f
theorem gsX_X9_advance_1_q20 {NF : Nat} {v : Nat → Int32} {f : Nat → Nat → Int32}  : gsX_X9_advance_1 NF v f = gsX_X9_advance_1_L1 NF v (4294967296 + NF) (upd v 3 (v 4)) f := by
  simp only [gsX_X9_advance_1]
theorem gsX_X9_advance_1_q16 {NF : Nat} {v : Nat → Int32} {n1 : Nat} {v1 : Nat → Int32} {f1 : Nat → Nat → Int32} (h0 : ((v 1) ≤ (v1 3))) : gsX_X9_advance_1_L1 NF v (n1 + 1) v1 f1 = gsX_X9_advance_1_J2 NF v f1 v1 := by
  simp only [gsX_X9_advance_1_L1, if_pos h0]
theorem gsX_X9_advance_1_q17 {NF : Nat} {v : Nat → Int32} {n1 : Nat} {v1 : Nat → Int32} {f1 : Nat → Nat → Int32} {t62 : Int32} {t64 : Int32} (h0 : ¬ ((v 1) ≤ (v1 3))) (h1 : t62 = f1 0 ((v1 3)).toNatClampNeg) (h2 : (t62 = 32)) (h3 : t64 = (v1 3) + 1) : gsX_X9_advance_1_L1 NF v (n1 + 1) v1 f1 = gsX_X9_advance_1_L1 NF v n1 (upd v1 3 t64) f1 := by
  subst h1 h3
  simp only [gsX_X9_advance_1_L1, if_neg h0, if_pos h2]
theorem gsX_X9_advance_1_q18 {NF : Nat} {v : Nat → Int32} {n1 : Nat} {v1 : Nat → Int32} {f1 : Nat → Nat → Int32} {t62 : Int32} {t65 : Int32} (h0 : ¬ ((v 1) ≤ (v1 3))) (h1 : t62 = f1 0 ((v1 3)).toNatClampNeg) (h2 : ¬ (t62 = 32)) (h3 : t65 = f1 0 ((v1 3)).toNatClampNeg) (h4 : ¬ (t65 = 10)) : gsX_X9_advance_1_L1 NF v (n1 + 1) v1 f1 = gsX_X9_advance_1_J2 NF v f1 v1 := by
  subst h1 h3
  simp only [gsX_X9_advance_1_L1, if_neg h0, if_neg h2, if_neg h4]
theorem gsX_X9_advance_1_q19 {NF : Nat} {v : Nat → Int32} {n1 : Nat} {v1 : Nat → Int32} {f1 : Nat → Nat → Int32} {t62 : Int32} {t65 : Int32} {t67 : Int32} (h0 : ¬ ((v 1) ≤ (v1 3))) (h1 : t62 = f1 0 ((v1 3)).toNatClampNeg) (h2 : ¬ (t62 = 32)) (h3 : t65 = f1 0 ((v1 3)).toNatClampNeg) (h4 : (t65 = 10)) (h5 : t67 = (v1 3) + 1) : gsX_X9_advance_1_L1 NF v (n1 + 1) v1 f1 = gsX_X9_advance_1_L1 NF v n1 (upd v1 3 t67) f1 := by
  subst h1 h3 h5
  simp only [gsX_X9_advance_1_L1, if_neg h0, if_neg h2, if_pos h4]
theorem gsX_X9_advance_1_q5 {NF : Nat} {v : Nat → Int32} {f1 : Nat → Nat → Int32} {v1 : Nat → Int32} (h0 : ((v1 3) < (v 1))) (h1 : gsX_X9_isLetter_1 NF (v1 3) (upd v1 4 (v1 3)) f1 = 1) : gsX_X9_advance_1_J2 NF v f1 v1 = gsX_X9_advance_1_L9 NF v (4294967296 + NF) (upd v1 4 (v1 3)) f1 := by
  simp only [gsX_X9_advance_1_J2, if_pos h0, h1, ite11, ite01, if_true, if_false]
theorem gsX_X9_advance_1_q12 {NF : Nat} {v : Nat → Int32} {f1 : Nat → Nat → Int32} {v1 : Nat → Int32} (h0 : ((v1 3) < (v 1))) (h1 : gsX_X9_isLetter_1 NF (v1 3) (upd v1 4 (v1 3)) f1 = 0) (h2 : gsX_X9_isDigit_1 NF (v1 3) (upd v1 4 (v1 3)) f1 = 1) : gsX_X9_advance_1_J2 NF v f1 v1 = gsX_X9_advance_1_L27 NF v (4294967296 + NF) (upd (upd v1 4 (v1 3)) 5 0) f1 := by
  simp only [gsX_X9_advance_1_J2, if_pos h0, h1, h2, ite11, ite01, if_true, if_false]
theorem gsX_X9_advance_1_q13 {NF : Nat} {v : Nat → Int32} {f1 : Nat → Nat → Int32} {v1 : Nat → Int32} {t47 : Int32} {t48 : Int32} {t49 : Int32} {t50 : Int32} {r51 : Int32} (h0 : ((v1 3) < (v 1))) (h1 : gsX_X9_isLetter_1 NF (v1 3) (upd v1 4 (v1 3)) f1 = 0) (h2 : gsX_X9_isDigit_1 NF (v1 3) (upd v1 4 (v1 3)) f1 = 0) (h3 : t47 = (v1 3) + 1) (h4 : t48 = f1 0 ((v1 3)).toNatClampNeg) (h5 : t49 = t48 &&& 255) (h6 : t50 = (t49.toUInt32 % 65536).toInt32) (h7 : r51 = gsX_J0_indexOf_0f7a4_1 NF t50 (upd (upd v1 4 (v1 3)) 4 t47) f1) (h8 : (r51 < 0)) : gsX_X9_advance_1_J2 NF v f1 v1 = ((upd (upd (upd v1 4 (v1 3)) 4 t47) 2 1), f1) := by
  subst h3 h4 h5 h6 h7
  simp only [gsX_X9_advance_1_J2, if_pos h0, h1, h2, if_pos h8, ite11, ite01, if_true, if_false]
theorem gsX_X9_advance_1_q14 {NF : Nat} {v : Nat → Int32} {f1 : Nat → Nat → Int32} {v1 : Nat → Int32} {t47 : Int32} {t48 : Int32} {t49 : Int32} {t50 : Int32} {r51 : Int32} {t54 : Int32} (h0 : ((v1 3) < (v 1))) (h1 : gsX_X9_isLetter_1 NF (v1 3) (upd v1 4 (v1 3)) f1 = 0) (h2 : gsX_X9_isDigit_1 NF (v1 3) (upd v1 4 (v1 3)) f1 = 0) (h3 : t47 = (v1 3) + 1) (h4 : t48 = f1 0 ((v1 3)).toNatClampNeg) (h5 : t49 = t48 &&& 255) (h6 : t50 = (t49.toUInt32 % 65536).toInt32) (h7 : r51 = gsX_J0_indexOf_0f7a4_1 NF t50 (upd (upd v1 4 (v1 3)) 4 t47) f1) (h8 : ¬ (r51 < 0)) (h9 : t54 = f1 0 ((v1 3)).toNatClampNeg) : gsX_X9_advance_1_J2 NF v f1 v1 = ((upd (upd (upd v1 4 (v1 3)) 4 t47) 2 t54), f1) := by
  subst h3 h4 h5 h6 h7 h9
  simp only [gsX_X9_advance_1_J2, if_pos h0, h1, h2, if_neg h8, ite11, ite01, if_true, if_false]
theorem gsX_X9_advance_1_q15 {NF : Nat} {v : Nat → Int32} {f1 : Nat → Nat → Int32} {v1 : Nat → Int32} (h0 : ¬ ((v1 3) < (v 1))) : gsX_X9_advance_1_J2 NF v f1 v1 = ((upd (upd v1 4 (v1 3)) 2 0), f1) := by
  simp only [gsX_X9_advance_1_J2, if_neg h0]
theorem gsX_X9_advance_1_q2 {NF : Nat} {v : Nat → Int32} {n9 : Nat} {v9 : Nat → Int32} {f9 : Nat → Nat → Int32} (h0 : ((v 1) ≤ (v9 4))) : gsX_X9_advance_1_L9 NF v (n9 + 1) v9 f9 = gsX_X9_advance_1_J10 NF f9 v9 := by
  simp only [gsX_X9_advance_1_L9, if_pos h0]
theorem gsX_X9_advance_1_q3 {NF : Nat} {v : Nat → Int32} {n9 : Nat} {v9 : Nat → Int32} {f9 : Nat → Nat → Int32} {t23 : Int32} (h0 : ¬ ((v 1) ≤ (v9 4))) (h1 : gsX_X9_isLetter_1 NF (v9 4) v9 f9 = 1) (h2 : t23 = (v9 4) + 1) : gsX_X9_advance_1_L9 NF v (n9 + 1) v9 f9 = gsX_X9_advance_1_L9 NF v n9 (upd v9 4 t23) f9 := by
  subst h2
  simp only [gsX_X9_advance_1_L9, if_neg h0, h1, ite11, ite01, if_true, if_false]
theorem gsX_X9_advance_1_q4 {NF : Nat} {v : Nat → Int32} {n9 : Nat} {v9 : Nat → Int32} {f9 : Nat → Nat → Int32} (h0 : ¬ ((v 1) ≤ (v9 4))) (h1 : gsX_X9_isLetter_1 NF (v9 4) v9 f9 = 0) : gsX_X9_advance_1_L9 NF v (n9 + 1) v9 f9 = gsX_X9_advance_1_J10 NF f9 v9 := by
  simp only [gsX_X9_advance_1_L9, if_neg h0, h1, ite11, ite01, if_true, if_false]
theorem gsX_X9_advance_1_q0 {NF : Nat} {f9 : Nat → Nat → Int32} {v9 : Nat → Int32} {t11 : Int32} {r15 : Int32} (h0 : t11 = (v9 4) - (v9 3)) (h1 : (t11 ≤ 8)) (h2 : r15 = gsX_X9_wordKind_1 NF v9 f9) : gsX_X9_advance_1_J10 NF f9 v9 = ((upd v9 2 r15), f9) := by
  subst h0 h2
  simp only [gsX_X9_advance_1_J10, if_pos h1]
theorem gsX_X9_advance_1_q1 {NF : Nat} {f9 : Nat → Nat → Int32} {v9 : Nat → Int32} {t11 : Int32} (h0 : t11 = (v9 4) - (v9 3)) (h1 : ¬ (t11 ≤ 8)) : gsX_X9_advance_1_J10 NF f9 v9 = ((upd v9 2 1), f9) := by
  subst h0
  simp only [gsX_X9_advance_1_J10, if_neg h1]
theorem gsX_X9_advance_1_q9 {NF : Nat} {v : Nat → Int32} {n27 : Nat} {v27 : Nat → Int32} {f27 : Nat → Nat → Int32} (h0 : ((v 1) ≤ (v27 4))) : gsX_X9_advance_1_L27 NF v (n27 + 1) v27 f27 = gsX_X9_advance_1_J28 NF f27 v27 := by
  simp only [gsX_X9_advance_1_L27, if_pos h0]
theorem gsX_X9_advance_1_q10 {NF : Nat} {v : Nat → Int32} {n27 : Nat} {v27 : Nat → Int32} {f27 : Nat → Nat → Int32} {t42 : Int32} {t43 : Int32} {t44 : Int32} {t45 : Int32} {t46 : Int32} (h0 : ¬ ((v 1) ≤ (v27 4))) (h1 : gsX_X9_isDigit_1 NF (v27 4) v27 f27 = 1) (h2 : t42 = (v27 5) * 10) (h3 : t43 = f27 0 ((v27 4)).toNatClampNeg) (h4 : t44 = t42 + t43) (h5 : t45 = t44 - 48) (h6 : t46 = (v27 4) + 1) : gsX_X9_advance_1_L27 NF v (n27 + 1) v27 f27 = gsX_X9_advance_1_L27 NF v n27 (upd (upd v27 5 t45) 4 t46) f27 := by
  subst h2 h3 h4 h5 h6
  simp only [gsX_X9_advance_1_L27, if_neg h0, h1, ite11, ite01, if_true, if_false]
theorem gsX_X9_advance_1_q11 {NF : Nat} {v : Nat → Int32} {n27 : Nat} {v27 : Nat → Int32} {f27 : Nat → Nat → Int32} (h0 : ¬ ((v 1) ≤ (v27 4))) (h1 : gsX_X9_isDigit_1 NF (v27 4) v27 f27 = 0) : gsX_X9_advance_1_L27 NF v (n27 + 1) v27 f27 = gsX_X9_advance_1_J28 NF f27 v27 := by
  simp only [gsX_X9_advance_1_L27, if_neg h0, h1, ite11, ite01, if_true, if_false]
theorem gsX_X9_advance_1_q6 {NF : Nat} {f27 : Nat → Nat → Int32} {v27 : Nat → Int32} {t29 : Int32} (h0 : t29 = (v27 4) - (v27 3)) (h1 : (4 < t29)) : gsX_X9_advance_1_J28 NF f27 v27 = ((upd v27 2 1), f27) := by
  subst h0
  simp only [gsX_X9_advance_1_J28, if_pos h1]
theorem gsX_X9_advance_1_q7 {NF : Nat} {f27 : Nat → Nat → Int32} {v27 : Nat → Int32} {t29 : Int32} (h0 : t29 = (v27 4) - (v27 3)) (h1 : ¬ (4 < t29)) (h2 : gsX_X9_isLetter_1 NF (v27 4) v27 f27 = 1) : gsX_X9_advance_1_J28 NF f27 v27 = ((upd v27 2 1), f27) := by
  subst h0
  simp only [gsX_X9_advance_1_J28, if_neg h1, h2, ite11, ite01, if_true, if_false]
theorem gsX_X9_advance_1_q8 {NF : Nat} {f27 : Nat → Nat → Int32} {v27 : Nat → Int32} {t29 : Int32} (h0 : t29 = (v27 4) - (v27 3)) (h1 : ¬ (4 < t29)) (h2 : gsX_X9_isLetter_1 NF (v27 4) v27 f27 = 0) : gsX_X9_advance_1_J28 NF f27 v27 = ((upd v27 2 2), f27) := by
  subst h0
  simp only [gsX_X9_advance_1_J28, if_neg h1, h2, ite11, ite01, if_true, if_false]
def gsX_X9_rewind_1 (NF : Nat) (v : Nat → Int32) (f : Nat → Nat → Int32) : (Nat → Int32) × (Nat → Nat → Int32) :=
  match gsX_X9_advance_1 NF (upd v 4 0) f with
  | (v2, f3) =>
    (v2, f3)
theorem gsX_X9_rewind_1_q0 {NF : Nat} {v : Nat → Int32} {f : Nat → Nat → Int32} {v2 : Nat → Int32} {f3 : Nat → Nat → Int32} (h0 : gsX_X9_advance_1 NF (upd v 4 0) f = (v2, f3)) : gsX_X9_rewind_1 NF v f = (v2, f3) := by
  simp only [gsX_X9_rewind_1, h0]
def gsX_X9_sameWord_1_L1 (NF : Nat) (p1 : Int32) (p2 : Int32) (v : Nat → Int32) (f : Nat → Nat → Int32) : Nat → (Int32) → Int32
  | 0, _ => 0
  | n1 + 1, l3_1 =>
    if 8 < l3_1 then
      1
    else
      let t3 : Int32 := p1 + l3_1
      if gsX_X9_isLetter_1 NF t3 v f = 1 then
        let t7 : Int32 := p2 + l3_1
        if gsX_X9_isLetter_1 NF t7 v f = 1 then
          let t11 : Int32 := f 0 (t3).toNatClampNeg
          let t12 : Int32 := f 0 (t7).toNatClampNeg
          if t11 = t12 then
            let t16 : Int32 := l3_1 + 1
            gsX_X9_sameWord_1_L1 NF p1 p2 v f n1 t16
          else
            0
        else
          if gsX_X9_isLetter_1 NF t3 v f = 1 then
            if gsX_X9_isLetter_1 NF t7 v f = 1 then
              1
            else
              0
          else
            if gsX_X9_isLetter_1 NF t7 v f = 1 then
              0
            else
              1
      else
        if gsX_X9_isLetter_1 NF t3 v f = 1 then
          let t33 : Int32 := p2 + l3_1
          if gsX_X9_isLetter_1 NF t33 v f = 1 then
            1
          else
            0
        else
          let t37 : Int32 := p2 + l3_1
          if gsX_X9_isLetter_1 NF t37 v f = 1 then
            0
          else
            1
def gsX_X9_sameWord_1 (NF : Nat) (p1 : Int32) (p2 : Int32) (v : Nat → Int32) (f : Nat → Nat → Int32) : Int32 :=
  gsX_X9_sameWord_1_L1 NF p1 p2 v f (4294967296 + NF) 0
theorem gsX_X9_sameWord_1_q11 {NF : Nat} {p1 : Int32} {p2 : Int32} {v : Nat → Int32} {f : Nat → Nat → Int32}  : gsX_X9_sameWord_1 NF p1 p2 v f = gsX_X9_sameWord_1_L1 NF p1 p2 v f (4294967296 + NF) 0 := by
  simp only [gsX_X9_sameWord_1]
theorem gsX_X9_sameWord_1_q0 {NF : Nat} {p1 : Int32} {p2 : Int32} {v : Nat → Int32} {f : Nat → Nat → Int32} {n1 : Nat} {l3_1 : Int32} (h0 : (8 < l3_1)) : gsX_X9_sameWord_1_L1 NF p1 p2 v f (n1 + 1) l3_1 = 1 := by
  simp only [gsX_X9_sameWord_1_L1, if_pos h0]
theorem gsX_X9_sameWord_1_q1 {NF : Nat} {p1 : Int32} {p2 : Int32} {v : Nat → Int32} {f : Nat → Nat → Int32} {n1 : Nat} {l3_1 : Int32} {t3 : Int32} {t7 : Int32} {t11 : Int32} {t12 : Int32} {t16 : Int32} (h0 : ¬ (8 < l3_1)) (h1 : t3 = p1 + l3_1) (h2 : gsX_X9_isLetter_1 NF t3 v f = 1) (h3 : t7 = p2 + l3_1) (h4 : gsX_X9_isLetter_1 NF t7 v f = 1) (h5 : t11 = f 0 (t3).toNatClampNeg) (h6 : t12 = f 0 (t7).toNatClampNeg) (h7 : (t11 = t12)) (h8 : t16 = l3_1 + 1) : gsX_X9_sameWord_1_L1 NF p1 p2 v f (n1 + 1) l3_1 = gsX_X9_sameWord_1_L1 NF p1 p2 v f n1 t16 := by
  subst h1 h3 h5 h6 h8
  simp only [gsX_X9_sameWord_1_L1, if_neg h0, h2, h4, if_pos h7, ite11, ite01, if_true, if_false]
theorem gsX_X9_sameWord_1_q2 {NF : Nat} {p1 : Int32} {p2 : Int32} {v : Nat → Int32} {f : Nat → Nat → Int32} {n1 : Nat} {l3_1 : Int32} {t3 : Int32} {t7 : Int32} {t11 : Int32} {t12 : Int32} (h0 : ¬ (8 < l3_1)) (h1 : t3 = p1 + l3_1) (h2 : gsX_X9_isLetter_1 NF t3 v f = 1) (h3 : t7 = p2 + l3_1) (h4 : gsX_X9_isLetter_1 NF t7 v f = 1) (h5 : t11 = f 0 (t3).toNatClampNeg) (h6 : t12 = f 0 (t7).toNatClampNeg) (h7 : ¬ (t11 = t12)) : gsX_X9_sameWord_1_L1 NF p1 p2 v f (n1 + 1) l3_1 = 0 := by
  subst h1 h3 h5 h6
  simp only [gsX_X9_sameWord_1_L1, if_neg h0, h2, h4, if_neg h7, ite11, ite01, if_true, if_false]
theorem gsX_X9_sameWord_1_q3 {NF : Nat} {p1 : Int32} {p2 : Int32} {v : Nat → Int32} {f : Nat → Nat → Int32} {n1 : Nat} {l3_1 : Int32} {t3 : Int32} {t7 : Int32} (h0 : ¬ (8 < l3_1)) (h1 : t3 = p1 + l3_1) (h2 : gsX_X9_isLetter_1 NF t3 v f = 1) (h3 : t7 = p2 + l3_1) (h4 : gsX_X9_isLetter_1 NF t7 v f = 0) (h5 : gsX_X9_isLetter_1 NF t3 v f = 1) (h6 : gsX_X9_isLetter_1 NF t7 v f = 1) : gsX_X9_sameWord_1_L1 NF p1 p2 v f (n1 + 1) l3_1 = 1 := by
  exact absurd (h6.symm.trans h4) (by decide)
theorem gsX_X9_sameWord_1_q4 {NF : Nat} {p1 : Int32} {p2 : Int32} {v : Nat → Int32} {f : Nat → Nat → Int32} {n1 : Nat} {l3_1 : Int32} {t3 : Int32} {t7 : Int32} (h0 : ¬ (8 < l3_1)) (h1 : t3 = p1 + l3_1) (h2 : gsX_X9_isLetter_1 NF t3 v f = 1) (h3 : t7 = p2 + l3_1) (h4 : gsX_X9_isLetter_1 NF t7 v f = 0) (h5 : gsX_X9_isLetter_1 NF t3 v f = 1) (h6 : gsX_X9_isLetter_1 NF t7 v f = 0) : gsX_X9_sameWord_1_L1 NF p1 p2 v f (n1 + 1) l3_1 = 0 := by
  subst h1 h3
  simp only [gsX_X9_sameWord_1_L1, if_neg h0, h2, h4, h5, h6, ite11, ite01, if_true, if_false]
theorem gsX_X9_sameWord_1_q5 {NF : Nat} {p1 : Int32} {p2 : Int32} {v : Nat → Int32} {f : Nat → Nat → Int32} {n1 : Nat} {l3_1 : Int32} {t3 : Int32} {t7 : Int32} (h0 : ¬ (8 < l3_1)) (h1 : t3 = p1 + l3_1) (h2 : gsX_X9_isLetter_1 NF t3 v f = 1) (h3 : t7 = p2 + l3_1) (h4 : gsX_X9_isLetter_1 NF t7 v f = 0) (h5 : gsX_X9_isLetter_1 NF t3 v f = 0) (h6 : gsX_X9_isLetter_1 NF t7 v f = 1) : gsX_X9_sameWord_1_L1 NF p1 p2 v f (n1 + 1) l3_1 = 0 := by
  exact absurd (h2.symm.trans h5) (by decide)
theorem gsX_X9_sameWord_1_q6 {NF : Nat} {p1 : Int32} {p2 : Int32} {v : Nat → Int32} {f : Nat → Nat → Int32} {n1 : Nat} {l3_1 : Int32} {t3 : Int32} {t7 : Int32} (h0 : ¬ (8 < l3_1)) (h1 : t3 = p1 + l3_1) (h2 : gsX_X9_isLetter_1 NF t3 v f = 1) (h3 : t7 = p2 + l3_1) (h4 : gsX_X9_isLetter_1 NF t7 v f = 0) (h5 : gsX_X9_isLetter_1 NF t3 v f = 0) (h6 : gsX_X9_isLetter_1 NF t7 v f = 0) : gsX_X9_sameWord_1_L1 NF p1 p2 v f (n1 + 1) l3_1 = 1 := by
  exact absurd (h2.symm.trans h5) (by decide)
theorem gsX_X9_sameWord_1_q7 {NF : Nat} {p1 : Int32} {p2 : Int32} {v : Nat → Int32} {f : Nat → Nat → Int32} {n1 : Nat} {l3_1 : Int32} {t3 : Int32} {t33 : Int32} (h0 : ¬ (8 < l3_1)) (h1 : t3 = p1 + l3_1) (h2 : gsX_X9_isLetter_1 NF t3 v f = 0) (h3 : gsX_X9_isLetter_1 NF t3 v f = 1) (h4 : t33 = p2 + l3_1) (h5 : gsX_X9_isLetter_1 NF t33 v f = 1) : gsX_X9_sameWord_1_L1 NF p1 p2 v f (n1 + 1) l3_1 = 1 := by
  exact absurd (h3.symm.trans h2) (by decide)
theorem gsX_X9_sameWord_1_q8 {NF : Nat} {p1 : Int32} {p2 : Int32} {v : Nat → Int32} {f : Nat → Nat → Int32} {n1 : Nat} {l3_1 : Int32} {t3 : Int32} {t33 : Int32} (h0 : ¬ (8 < l3_1)) (h1 : t3 = p1 + l3_1) (h2 : gsX_X9_isLetter_1 NF t3 v f = 0) (h3 : gsX_X9_isLetter_1 NF t3 v f = 1) (h4 : t33 = p2 + l3_1) (h5 : gsX_X9_isLetter_1 NF t33 v f = 0) : gsX_X9_sameWord_1_L1 NF p1 p2 v f (n1 + 1) l3_1 = 0 := by
  exact absurd (h3.symm.trans h2) (by decide)
theorem gsX_X9_sameWord_1_q9 {NF : Nat} {p1 : Int32} {p2 : Int32} {v : Nat → Int32} {f : Nat → Nat → Int32} {n1 : Nat} {l3_1 : Int32} {t3 : Int32} {t37 : Int32} (h0 : ¬ (8 < l3_1)) (h1 : t3 = p1 + l3_1) (h2 : gsX_X9_isLetter_1 NF t3 v f = 0) (h3 : gsX_X9_isLetter_1 NF t3 v f = 0) (h4 : t37 = p2 + l3_1) (h5 : gsX_X9_isLetter_1 NF t37 v f = 1) : gsX_X9_sameWord_1_L1 NF p1 p2 v f (n1 + 1) l3_1 = 0 := by
  subst h1 h4
  simp only [gsX_X9_sameWord_1_L1, if_neg h0, h2, h3, h5, ite11, ite01, if_true, if_false]
theorem gsX_X9_sameWord_1_q10 {NF : Nat} {p1 : Int32} {p2 : Int32} {v : Nat → Int32} {f : Nat → Nat → Int32} {n1 : Nat} {l3_1 : Int32} {t3 : Int32} {t37 : Int32} (h0 : ¬ (8 < l3_1)) (h1 : t3 = p1 + l3_1) (h2 : gsX_X9_isLetter_1 NF t3 v f = 0) (h3 : gsX_X9_isLetter_1 NF t3 v f = 0) (h4 : t37 = p2 + l3_1) (h5 : gsX_X9_isLetter_1 NF t37 v f = 0) : gsX_X9_sameWord_1_L1 NF p1 p2 v f (n1 + 1) l3_1 = 1 := by
  subst h1 h4
  simp only [gsX_X9_sameWord_1_L1, if_neg h0, h2, h3, h5, ite11, ite01, if_true, if_false]
def gsX_X6_refuseAs_1 (NF : Nat) (p1 : Int32) (v : Nat → Int32) (f : Nat → Nat → Int32) : Int32 × (Nat → Int32) × (Nat → Nat → Int32) :=
  (0, (upd (upd v 7 p1) 8 (v 3)), f)
theorem gsX_X6_refuseAs_1_q0 {NF : Nat} {p1 : Int32} {v : Nat → Int32} {f : Nat → Nat → Int32}  : gsX_X6_refuseAs_1 NF p1 v f = (0, (upd (upd v 7 p1) 8 (v 3)), f) := by
  simp only [gsX_X6_refuseAs_1]
def gsX_X6_refuse_1 (NF : Nat) (v : Nat → Int32) (f : Nat → Nat → Int32) : Int32 × (Nat → Int32) × (Nat → Nat → Int32) :=
  if (v 2) = 1 then
    match gsX_X6_refuseAs_1 NF 1 v f with
    | (r7, v9, f10) =>
      if r7 = 1 then
        (1, v9, f10)
      else
        (0, v9, f10)
  else
    match gsX_X6_refuseAs_1 NF 2 v f with
    | (r2, v4, f5) =>
      if r2 = 1 then
        (1, v4, f5)
      else
        (0, v4, f5)
theorem gsX_X6_refuse_1_q0 {NF : Nat} {v : Nat → Int32} {f : Nat → Nat → Int32} {v4 : Nat → Int32} {f5 : Nat → Nat → Int32} (h0 : ¬ ((v 2) = 1)) (h1 : gsX_X6_refuseAs_1 NF 2 v f = (1, v4, f5)) : gsX_X6_refuse_1 NF v f = (1, v4, f5) := by
  simp only [gsX_X6_refuse_1, if_neg h0, h1, ite11, ite01, if_true, if_false]
theorem gsX_X6_refuse_1_q1 {NF : Nat} {v : Nat → Int32} {f : Nat → Nat → Int32} {v4 : Nat → Int32} {f5 : Nat → Nat → Int32} (h0 : ¬ ((v 2) = 1)) (h1 : gsX_X6_refuseAs_1 NF 2 v f = (0, v4, f5)) : gsX_X6_refuse_1 NF v f = (0, v4, f5) := by
  simp only [gsX_X6_refuse_1, if_neg h0, h1, ite11, ite01, if_true, if_false]
theorem gsX_X6_refuse_1_q2 {NF : Nat} {v : Nat → Int32} {f : Nat → Nat → Int32} {v9 : Nat → Int32} {f10 : Nat → Nat → Int32} (h0 : ((v 2) = 1)) (h1 : gsX_X6_refuseAs_1 NF 1 v f = (1, v9, f10)) : gsX_X6_refuse_1 NF v f = (1, v9, f10) := by
  simp only [gsX_X6_refuse_1, if_pos h0, h1, ite11, ite01, if_true, if_false]
theorem gsX_X6_refuse_1_q3 {NF : Nat} {v : Nat → Int32} {f : Nat → Nat → Int32} {v9 : Nat → Int32} {f10 : Nat → Nat → Int32} (h0 : ((v 2) = 1)) (h1 : gsX_X6_refuseAs_1 NF 1 v f = (0, v9, f10)) : gsX_X6_refuse_1 NF v f = (0, v9, f10) := by
  simp only [gsX_X6_refuse_1, if_pos h0, h1, ite11, ite01, if_true, if_false]
def gsX_X6_name_1_L2 (NF : Nat) (p2 : Int32) : Nat → (Int32) → (Nat → Int32) → (Nat → Nat → Int32) → Int32 × (Nat → Int32) × (Nat → Nat → Int32)
  | 0, _, _, _ => (0, (fun _ => 0), (fun _ _ => 0))
  | n2 + 1, l3_2, v2, f2 =>
    if p2 ≤ l3_2 then
      if p2 < 0 then
        match gsX_X9_advance_1 NF v2 f2 with
        | (v8, f9) =>
          (1, v8, f9)
      else
        if 6 ≤ p2 then
          match gsX_X9_advance_1 NF v2 f2 with
          | (v12, f13) =>
            (1, v12, f13)
        else
          let f14 : Nat → Nat → Int32 := upd2 f2 7 (upd (f2 7) p2.toNatClampNeg (v2 3))
          match gsX_X9_advance_1 NF v2 f14 with
          | (v16, f17) =>
            (1, v16, f17)
    else
      if 6 ≤ l3_2 then
        if p2 < 0 then
          match gsX_X9_advance_1 NF v2 f2 with
          | (v23, f24) =>
            (1, v23, f24)
        else
          if 6 ≤ p2 then
            match gsX_X9_advance_1 NF v2 f2 with
            | (v27, f28) =>
              (1, v27, f28)
          else
            let f29 : Nat → Nat → Int32 := upd2 f2 7 (upd (f2 7) p2.toNatClampNeg (v2 3))
            match gsX_X9_advance_1 NF v2 f29 with
            | (v31, f32) =>
              (1, v31, f32)
      else
        let t33 : Int32 := f2 7 (l3_2).toNatClampNeg
        if gsX_X9_sameWord_1 NF t33 (v2 3) v2 f2 = 1 then
          match gsX_X6_refuseAs_1 NF 3 v2 f2 with
          | (r37, v39, f40) =>
            if r37 = 1 then
              (1, v39, f40)
            else
              (0, v39, f40)
        else
          let t42 : Int32 := l3_2 + 1
          gsX_X6_name_1_L2 NF p2 n2 t42 v2 f2
def gsX_X6_name_1 (NF : Nat) (p2 : Int32) (v : Nat → Int32) (f : Nat → Nat → Int32) : Int32 × (Nat → Int32) × (Nat → Nat → Int32) :=
  if (v 2) = 3 then
    gsX_X6_name_1_L2 NF p2 (4294967296 + NF) 0 v f
  else
    match gsX_X6_refuse_1 NF v f with
    | (r44, v46, f47) =>
      if r44 = 1 then
        (1, v46, f47)
      else
        (0, v46, f47)
theorem gsX_X6_name_1_q9 {NF : Nat} {p2 : Int32} {v : Nat → Int32} {f : Nat → Nat → Int32} (h0 : ((v 2) = 3)) : gsX_X6_name_1 NF p2 v f = gsX_X6_name_1_L2 NF p2 (4294967296 + NF) 0 v f := by
  simp only [gsX_X6_name_1, if_pos h0]
theorem gsX_X6_name_1_q10 {NF : Nat} {p2 : Int32} {v : Nat → Int32} {f : Nat → Nat → Int32} {v46 : Nat → Int32} {f47 : Nat → Nat → Int32} (h0 : ¬ ((v 2) = 3)) (h1 : gsX_X6_refuse_1 NF v f = (1, v46, f47)) : gsX_X6_name_1 NF p2 v f = (1, v46, f47) := by
  simp only [gsX_X6_name_1, if_neg h0, h1, ite11, ite01, if_true, if_false]
theorem gsX_X6_name_1_q11 {NF : Nat} {p2 : Int32} {v : Nat → Int32} {f : Nat → Nat → Int32} {v46 : Nat → Int32} {f47 : Nat → Nat → Int32} (h0 : ¬ ((v 2) = 3)) (h1 : gsX_X6_refuse_1 NF v f = (0, v46, f47)) : gsX_X6_name_1 NF p2 v f = (0, v46, f47) := by
  simp only [gsX_X6_name_1, if_neg h0, h1, ite11, ite01, if_true, if_false]
theorem gsX_X6_name_1_q0 {NF : Nat} {p2 : Int32} {n2 : Nat} {l3_2 : Int32} {v2 : Nat → Int32} {f2 : Nat → Nat → Int32} {v8 : Nat → Int32} {f9 : Nat → Nat → Int32} (h0 : (p2 ≤ l3_2)) (h1 : (p2 < 0)) (h2 : gsX_X9_advance_1 NF v2 f2 = (v8, f9)) : gsX_X6_name_1_L2 NF p2 (n2 + 1) l3_2 v2 f2 = (1, v8, f9) := by
  simp only [gsX_X6_name_1_L2, if_pos h0, if_pos h1, h2]
theorem gsX_X6_name_1_q1 {NF : Nat} {p2 : Int32} {n2 : Nat} {l3_2 : Int32} {v2 : Nat → Int32} {f2 : Nat → Nat → Int32} {v12 : Nat → Int32} {f13 : Nat → Nat → Int32} (h0 : (p2 ≤ l3_2)) (h1 : ¬ (p2 < 0)) (h2 : (6 ≤ p2)) (h3 : gsX_X9_advance_1 NF v2 f2 = (v12, f13)) : gsX_X6_name_1_L2 NF p2 (n2 + 1) l3_2 v2 f2 = (1, v12, f13) := by
  simp only [gsX_X6_name_1_L2, if_pos h0, if_neg h1, if_pos h2, h3]
theorem gsX_X6_name_1_q2 {NF : Nat} {p2 : Int32} {n2 : Nat} {l3_2 : Int32} {v2 : Nat → Int32} {f2 : Nat → Nat → Int32} {f14 : Nat → Nat → Int32} {v16 : Nat → Int32} {f17 : Nat → Nat → Int32} (h0 : (p2 ≤ l3_2)) (h1 : ¬ (p2 < 0)) (h2 : ¬ (6 ≤ p2)) (h3 : f14 = upd2 f2 7 (upd (f2 7) p2.toNatClampNeg (v2 3))) (h4 : gsX_X9_advance_1 NF v2 f14 = (v16, f17)) : gsX_X6_name_1_L2 NF p2 (n2 + 1) l3_2 v2 f2 = (1, v16, f17) := by
  subst h3
  simp only [gsX_X6_name_1_L2, if_pos h0, if_neg h1, if_neg h2, h4]
theorem gsX_X6_name_1_q3 {NF : Nat} {p2 : Int32} {n2 : Nat} {l3_2 : Int32} {v2 : Nat → Int32} {f2 : Nat → Nat → Int32} {v23 : Nat → Int32} {f24 : Nat → Nat → Int32} (h0 : ¬ (p2 ≤ l3_2)) (h1 : (6 ≤ l3_2)) (h2 : (p2 < 0)) (h3 : gsX_X9_advance_1 NF v2 f2 = (v23, f24)) : gsX_X6_name_1_L2 NF p2 (n2 + 1) l3_2 v2 f2 = (1, v23, f24) := by
  simp only [gsX_X6_name_1_L2, if_neg h0, if_pos h1, if_pos h2, h3]
theorem gsX_X6_name_1_q4 {NF : Nat} {p2 : Int32} {n2 : Nat} {l3_2 : Int32} {v2 : Nat → Int32} {f2 : Nat → Nat → Int32} {v27 : Nat → Int32} {f28 : Nat → Nat → Int32} (h0 : ¬ (p2 ≤ l3_2)) (h1 : (6 ≤ l3_2)) (h2 : ¬ (p2 < 0)) (h3 : (6 ≤ p2)) (h4 : gsX_X9_advance_1 NF v2 f2 = (v27, f28)) : gsX_X6_name_1_L2 NF p2 (n2 + 1) l3_2 v2 f2 = (1, v27, f28) := by
  simp only [gsX_X6_name_1_L2, if_neg h0, if_pos h1, if_neg h2, if_pos h3, h4]
theorem gsX_X6_name_1_q5 {NF : Nat} {p2 : Int32} {n2 : Nat} {l3_2 : Int32} {v2 : Nat → Int32} {f2 : Nat → Nat → Int32} {f29 : Nat → Nat → Int32} {v31 : Nat → Int32} {f32 : Nat → Nat → Int32} (h0 : ¬ (p2 ≤ l3_2)) (h1 : (6 ≤ l3_2)) (h2 : ¬ (p2 < 0)) (h3 : ¬ (6 ≤ p2)) (h4 : f29 = upd2 f2 7 (upd (f2 7) p2.toNatClampNeg (v2 3))) (h5 : gsX_X9_advance_1 NF v2 f29 = (v31, f32)) : gsX_X6_name_1_L2 NF p2 (n2 + 1) l3_2 v2 f2 = (1, v31, f32) := by
  subst h4
  simp only [gsX_X6_name_1_L2, if_neg h0, if_pos h1, if_neg h2, if_neg h3, h5]
theorem gsX_X6_name_1_q6 {NF : Nat} {p2 : Int32} {n2 : Nat} {l3_2 : Int32} {v2 : Nat → Int32} {f2 : Nat → Nat → Int32} {t33 : Int32} {v39 : Nat → Int32} {f40 : Nat → Nat → Int32} (h0 : ¬ (p2 ≤ l3_2)) (h1 : ¬ (6 ≤ l3_2)) (h2 : t33 = f2 7 (l3_2).toNatClampNeg) (h3 : gsX_X9_sameWord_1 NF t33 (v2 3) v2 f2 = 1) (h4 : gsX_X6_refuseAs_1 NF 3 v2 f2 = (1, v39, f40)) : gsX_X6_name_1_L2 NF p2 (n2 + 1) l3_2 v2 f2 = (1, v39, f40) := by
  subst h2
  simp only [gsX_X6_name_1_L2, if_neg h0, if_neg h1, h3, h4, ite11, ite01, if_true, if_false]
theorem gsX_X6_name_1_q7 {NF : Nat} {p2 : Int32} {n2 : Nat} {l3_2 : Int32} {v2 : Nat → Int32} {f2 : Nat → Nat → Int32} {t33 : Int32} {v39 : Nat → Int32} {f40 : Nat → Nat → Int32} (h0 : ¬ (p2 ≤ l3_2)) (h1 : ¬ (6 ≤ l3_2)) (h2 : t33 = f2 7 (l3_2).toNatClampNeg) (h3 : gsX_X9_sameWord_1 NF t33 (v2 3) v2 f2 = 1) (h4 : gsX_X6_refuseAs_1 NF 3 v2 f2 = (0, v39, f40)) : gsX_X6_name_1_L2 NF p2 (n2 + 1) l3_2 v2 f2 = (0, v39, f40) := by
  subst h2
  simp only [gsX_X6_name_1_L2, if_neg h0, if_neg h1, h3, h4, ite11, ite01, if_true, if_false]
theorem gsX_X6_name_1_q8 {NF : Nat} {p2 : Int32} {n2 : Nat} {l3_2 : Int32} {v2 : Nat → Int32} {f2 : Nat → Nat → Int32} {t33 : Int32} {t42 : Int32} (h0 : ¬ (p2 ≤ l3_2)) (h1 : ¬ (6 ≤ l3_2)) (h2 : t33 = f2 7 (l3_2).toNatClampNeg) (h3 : gsX_X9_sameWord_1 NF t33 (v2 3) v2 f2 = 0) (h4 : t42 = l3_2 + 1) : gsX_X6_name_1_L2 NF p2 (n2 + 1) l3_2 v2 f2 = gsX_X6_name_1_L2 NF p2 n2 t42 v2 f2 := by
  subst h2 h4
  simp only [gsX_X6_name_1_L2, if_neg h0, if_neg h1, h3, ite11, ite01, if_true, if_false]
def gsX_X6_numbered_1 (NF : Nat) (p1 : Int32) (v : Nat → Int32) (f : Nat → Nat → Int32) : Int32 × (Nat → Int32) × (Nat → Nat → Int32) :=
  if (v 2) = 2 then
    if (v 5) ≤ p1 then
      match gsX_X9_advance_1 NF v f with
      | (v6, f7) =>
        ((v 5), v6, f7)
    else
      match gsX_X6_refuseAs_1 NF 4 v f with
      | (r10, v12, f13) =>
        if r10 = 1 then
          ((-1), v12, f13)
        else
          ((-1), v12, f13)
  else
    match gsX_X6_refuse_1 NF v f with
    | (r15, v17, f18) =>
      if r15 = 1 then
        ((-1), v17, f18)
      else
        ((-1), v17, f18)
theorem gsX_X6_numbered_1_q0 {NF : Nat} {p1 : Int32} {v : Nat → Int32} {f : Nat → Nat → Int32} {v6 : Nat → Int32} {f7 : Nat → Nat → Int32} (h0 : ((v 2) = 2)) (h1 : ((v 5) ≤ p1)) (h2 : gsX_X9_advance_1 NF v f = (v6, f7)) : gsX_X6_numbered_1 NF p1 v f = ((v 5), v6, f7) := by
  simp only [gsX_X6_numbered_1, if_pos h0, if_pos h1, h2]
theorem gsX_X6_numbered_1_q1 {NF : Nat} {p1 : Int32} {v : Nat → Int32} {f : Nat → Nat → Int32} {v12 : Nat → Int32} {f13 : Nat → Nat → Int32} (h0 : ((v 2) = 2)) (h1 : ¬ ((v 5) ≤ p1)) (h2 : gsX_X6_refuseAs_1 NF 4 v f = (1, v12, f13)) : gsX_X6_numbered_1 NF p1 v f = ((-1), v12, f13) := by
  simp only [gsX_X6_numbered_1, if_pos h0, if_neg h1, h2, ite11, ite01, if_true, if_false]
theorem gsX_X6_numbered_1_q2 {NF : Nat} {p1 : Int32} {v : Nat → Int32} {f : Nat → Nat → Int32} {v12 : Nat → Int32} {f13 : Nat → Nat → Int32} (h0 : ((v 2) = 2)) (h1 : ¬ ((v 5) ≤ p1)) (h2 : gsX_X6_refuseAs_1 NF 4 v f = (0, v12, f13)) : gsX_X6_numbered_1 NF p1 v f = ((-1), v12, f13) := by
  simp only [gsX_X6_numbered_1, if_pos h0, if_neg h1, h2, ite11, ite01, if_true, if_false]
theorem gsX_X6_numbered_1_q3 {NF : Nat} {p1 : Int32} {v : Nat → Int32} {f : Nat → Nat → Int32} {v17 : Nat → Int32} {f18 : Nat → Nat → Int32} (h0 : ¬ ((v 2) = 2)) (h1 : gsX_X6_refuse_1 NF v f = (1, v17, f18)) : gsX_X6_numbered_1 NF p1 v f = ((-1), v17, f18) := by
  simp only [gsX_X6_numbered_1, if_neg h0, h1, ite11, ite01, if_true, if_false]
theorem gsX_X6_numbered_1_q4 {NF : Nat} {p1 : Int32} {v : Nat → Int32} {f : Nat → Nat → Int32} {v17 : Nat → Int32} {f18 : Nat → Nat → Int32} (h0 : ¬ ((v 2) = 2)) (h1 : gsX_X6_refuse_1 NF v f = (0, v17, f18)) : gsX_X6_numbered_1 NF p1 v f = ((-1), v17, f18) := by
  simp only [gsX_X6_numbered_1, if_neg h0, h1, ite11, ite01, if_true, if_false]
def gsX_X6_labelled_1 (NF : Nat) (p1 : Int32) (p2 : Int32) (v : Nat → Int32) (f : Nat → Nat → Int32) : Int32 × (Nat → Int32) × (Nat → Nat → Int32) :=
  if (v 2) = p1 then
    match gsX_X9_advance_1 NF v f with
    | (v5, f6) =>
      match gsX_X6_numbered_1 NF p2 v5 f6 with
      | (r7, v9, f10) =>
        (r7, v9, f10)
  else
    match gsX_X6_refuse_1 NF v f with
    | (r13, v15, f16) =>
      if r13 = 1 then
        ((-1), v15, f16)
      else
        ((-1), v15, f16)
theorem gsX_X6_labelled_1_q0 {NF : Nat} {p1 : Int32} {p2 : Int32} {v : Nat → Int32} {f : Nat → Nat → Int32} {v5 : Nat → Int32} {f6 : Nat → Nat → Int32} {r7 : Int32} {v9 : Nat → Int32} {f10 : Nat → Nat → Int32} (h0 : ((v 2) = p1)) (h1 : gsX_X9_advance_1 NF v f = (v5, f6)) (h2 : gsX_X6_numbered_1 NF p2 v5 f6 = (r7, v9, f10)) : gsX_X6_labelled_1 NF p1 p2 v f = (r7, v9, f10) := by
  simp only [gsX_X6_labelled_1, if_pos h0, h1, h2]
theorem gsX_X6_labelled_1_q1 {NF : Nat} {p1 : Int32} {p2 : Int32} {v : Nat → Int32} {f : Nat → Nat → Int32} {v15 : Nat → Int32} {f16 : Nat → Nat → Int32} (h0 : ¬ ((v 2) = p1)) (h1 : gsX_X6_refuse_1 NF v f = (1, v15, f16)) : gsX_X6_labelled_1 NF p1 p2 v f = ((-1), v15, f16) := by
  simp only [gsX_X6_labelled_1, if_neg h0, h1, ite11, ite01, if_true, if_false]
theorem gsX_X6_labelled_1_q2 {NF : Nat} {p1 : Int32} {p2 : Int32} {v : Nat → Int32} {f : Nat → Nat → Int32} {v15 : Nat → Int32} {f16 : Nat → Nat → Int32} (h0 : ¬ ((v 2) = p1)) (h1 : gsX_X6_refuse_1 NF v f = (0, v15, f16)) : gsX_X6_labelled_1 NF p1 p2 v f = ((-1), v15, f16) := by
  simp only [gsX_X6_labelled_1, if_neg h0, h1, ite11, ite01, if_true, if_false]
def gsX_X7_addMan_1 (NF : Nat) (p1 : Int32) (p2 : Int32) (p3 : Int32) (v : Nat → Int32) (f : Nat → Nat → Int32) : (Nat → Int32) × (Nat → Nat → Int32) :=
  if 6 ≤ (v 9) then
    (v, f)
  else
    let t2 : Int32 := 0 + (v 9)
    let f4 : Nat → Nat → Int32 := upd2 f 1 (upd (f 1) t2.toNatClampNeg p1)
    let t5 : Int32 := 6 + (v 9)
    let f6 : Nat → Nat → Int32 := upd2 f4 1 (upd (f4 1) t5.toNatClampNeg p2)
    let t7 : Int32 := 12 + (v 9)
    let f8 : Nat → Nat → Int32 := upd2 f6 1 (upd (f6 1) t7.toNatClampNeg p3)
    let t9 : Int32 := (v 9) + 1
    ((upd v 9 t9), f8)
theorem gsX_X7_addMan_1_q0 {NF : Nat} {p1 : Int32} {p2 : Int32} {p3 : Int32} {v : Nat → Int32} {f : Nat → Nat → Int32} (h0 : (6 ≤ (v 9))) : gsX_X7_addMan_1 NF p1 p2 p3 v f = (v, f) := by
  simp only [gsX_X7_addMan_1, if_pos h0]
theorem gsX_X7_addMan_1_q1 {NF : Nat} {p1 : Int32} {p2 : Int32} {p3 : Int32} {v : Nat → Int32} {f : Nat → Nat → Int32} {t2 : Int32} {f4 : Nat → Nat → Int32} {t5 : Int32} {f6 : Nat → Nat → Int32} {t7 : Int32} {f8 : Nat → Nat → Int32} {t9 : Int32} (h0 : ¬ (6 ≤ (v 9))) (h1 : t2 = 0 + (v 9)) (h2 : f4 = upd2 f 1 (upd (f 1) t2.toNatClampNeg p1)) (h3 : t5 = 6 + (v 9)) (h4 : f6 = upd2 f4 1 (upd (f4 1) t5.toNatClampNeg p2)) (h5 : t7 = 12 + (v 9)) (h6 : f8 = upd2 f6 1 (upd (f6 1) t7.toNatClampNeg p3)) (h7 : t9 = (v 9) + 1) : gsX_X7_addMan_1 NF p1 p2 p3 v f = ((upd v 9 t9), f8) := by
  subst h1 h2 h3 h4 h5 h6 h7
  simp only [gsX_X7_addMan_1, if_neg h0]
def gsX_X6_manLine_1 (NF : Nat) (v : Nat → Int32) (f : Nat → Nat → Int32) : Int32 × (Nat → Int32) × (Nat → Nat → Int32) :=
  if (v 9) < 6 then
    match gsX_X9_advance_1 NF v f with
    | (v3, f4) =>
      match gsX_X6_name_1 NF (v 9) v3 f4 with
      | (r5, v7, f8) =>
        if r5 = 1 then
          match gsX_X6_labelled_1 NF 109 99 v7 f8 with
          | (r10, v12, f13) =>
            if 0 ≤ r10 then
              match gsX_X6_labelled_1 NF 110 99 v12 f13 with
              | (r15, v17, f18) =>
                if 0 ≤ r15 then
                  if (v17 2) = 111 then
                    match gsX_X6_labelled_1 NF 111 9 v17 f18 with
                    | (r24, v26, f27) =>
                      if 0 ≤ r24 then
                        match gsX_X7_addMan_1 NF r10 r15 r24 v26 f27 with
                        | (v30, f31) =>
                          (1, v30, f31)
                      else
                        (0, v26, f27)
                  else
                    match gsX_X7_addMan_1 NF r10 r15 0 v17 f18 with
                    | (v22, f23) =>
                      (1, v22, f23)
                else
                  (0, v17, f18)
            else
              (0, v12, f13)
        else
          (0, v7, f8)
  else
    match gsX_X6_refuse_1 NF v f with
    | (r32, v34, f35) =>
      if r32 = 1 then
        (1, v34, f35)
      else
        (0, v34, f35)
theorem gsX_X6_manLine_1_q0 {NF : Nat} {v : Nat → Int32} {f : Nat → Nat → Int32} {v3 : Nat → Int32} {f4 : Nat → Nat → Int32} {v7 : Nat → Int32} {f8 : Nat → Nat → Int32} {r10 : Int32} {v12 : Nat → Int32} {f13 : Nat → Nat → Int32} {r15 : Int32} {v17 : Nat → Int32} {f18 : Nat → Nat → Int32} {v22 : Nat → Int32} {f23 : Nat → Nat → Int32} (h0 : ((v 9) < 6)) (h1 : gsX_X9_advance_1 NF v f = (v3, f4)) (h2 : gsX_X6_name_1 NF (v 9) v3 f4 = (1, v7, f8)) (h4 : gsX_X6_labelled_1 NF 109 99 v7 f8 = (r10, v12, f13)) (h5 : (0 ≤ r10)) (h6 : gsX_X6_labelled_1 NF 110 99 v12 f13 = (r15, v17, f18)) (h7 : (0 ≤ r15)) (h8 : ¬ ((v17 2) = 111)) (h9 : gsX_X7_addMan_1 NF r10 r15 0 v17 f18 = (v22, f23)) : gsX_X6_manLine_1 NF v f = (1, v22, f23) := by
  simp only [gsX_X6_manLine_1, if_pos h0, h1, h2, h4, if_pos h5, h6, if_pos h7, if_neg h8, h9, ite11, ite01, if_true, if_false]
theorem gsX_X6_manLine_1_q1 {NF : Nat} {v : Nat → Int32} {f : Nat → Nat → Int32} {v3 : Nat → Int32} {f4 : Nat → Nat → Int32} {v7 : Nat → Int32} {f8 : Nat → Nat → Int32} {r10 : Int32} {v12 : Nat → Int32} {f13 : Nat → Nat → Int32} {r15 : Int32} {v17 : Nat → Int32} {f18 : Nat → Nat → Int32} {r24 : Int32} {v26 : Nat → Int32} {f27 : Nat → Nat → Int32} {v30 : Nat → Int32} {f31 : Nat → Nat → Int32} (h0 : ((v 9) < 6)) (h1 : gsX_X9_advance_1 NF v f = (v3, f4)) (h2 : gsX_X6_name_1 NF (v 9) v3 f4 = (1, v7, f8)) (h4 : gsX_X6_labelled_1 NF 109 99 v7 f8 = (r10, v12, f13)) (h5 : (0 ≤ r10)) (h6 : gsX_X6_labelled_1 NF 110 99 v12 f13 = (r15, v17, f18)) (h7 : (0 ≤ r15)) (h8 : ((v17 2) = 111)) (h9 : gsX_X6_labelled_1 NF 111 9 v17 f18 = (r24, v26, f27)) (h10 : (0 ≤ r24)) (h11 : gsX_X7_addMan_1 NF r10 r15 r24 v26 f27 = (v30, f31)) : gsX_X6_manLine_1 NF v f = (1, v30, f31) := by
  simp only [gsX_X6_manLine_1, if_pos h0, h1, h2, h4, if_pos h5, h6, if_pos h7, if_pos h8, h9, if_pos h10, h11, ite11, ite01, if_true, if_false]
theorem gsX_X6_manLine_1_q2 {NF : Nat} {v : Nat → Int32} {f : Nat → Nat → Int32} {v3 : Nat → Int32} {f4 : Nat → Nat → Int32} {v7 : Nat → Int32} {f8 : Nat → Nat → Int32} {r10 : Int32} {v12 : Nat → Int32} {f13 : Nat → Nat → Int32} {r15 : Int32} {v17 : Nat → Int32} {f18 : Nat → Nat → Int32} {r24 : Int32} {v26 : Nat → Int32} {f27 : Nat → Nat → Int32} (h0 : ((v 9) < 6)) (h1 : gsX_X9_advance_1 NF v f = (v3, f4)) (h2 : gsX_X6_name_1 NF (v 9) v3 f4 = (1, v7, f8)) (h4 : gsX_X6_labelled_1 NF 109 99 v7 f8 = (r10, v12, f13)) (h5 : (0 ≤ r10)) (h6 : gsX_X6_labelled_1 NF 110 99 v12 f13 = (r15, v17, f18)) (h7 : (0 ≤ r15)) (h8 : ((v17 2) = 111)) (h9 : gsX_X6_labelled_1 NF 111 9 v17 f18 = (r24, v26, f27)) (h10 : ¬ (0 ≤ r24)) : gsX_X6_manLine_1 NF v f = (0, v26, f27) := by
  simp only [gsX_X6_manLine_1, if_pos h0, h1, h2, h4, if_pos h5, h6, if_pos h7, if_pos h8, h9, if_neg h10, ite11, ite01, if_true, if_false]
theorem gsX_X6_manLine_1_q3 {NF : Nat} {v : Nat → Int32} {f : Nat → Nat → Int32} {v3 : Nat → Int32} {f4 : Nat → Nat → Int32} {v7 : Nat → Int32} {f8 : Nat → Nat → Int32} {r10 : Int32} {v12 : Nat → Int32} {f13 : Nat → Nat → Int32} {r15 : Int32} {v17 : Nat → Int32} {f18 : Nat → Nat → Int32} (h0 : ((v 9) < 6)) (h1 : gsX_X9_advance_1 NF v f = (v3, f4)) (h2 : gsX_X6_name_1 NF (v 9) v3 f4 = (1, v7, f8)) (h4 : gsX_X6_labelled_1 NF 109 99 v7 f8 = (r10, v12, f13)) (h5 : (0 ≤ r10)) (h6 : gsX_X6_labelled_1 NF 110 99 v12 f13 = (r15, v17, f18)) (h7 : ¬ (0 ≤ r15)) : gsX_X6_manLine_1 NF v f = (0, v17, f18) := by
  simp only [gsX_X6_manLine_1, if_pos h0, h1, h2, h4, if_pos h5, h6, if_neg h7, ite11, ite01, if_true, if_false]
theorem gsX_X6_manLine_1_q4 {NF : Nat} {v : Nat → Int32} {f : Nat → Nat → Int32} {v3 : Nat → Int32} {f4 : Nat → Nat → Int32} {v7 : Nat → Int32} {f8 : Nat → Nat → Int32} {r10 : Int32} {v12 : Nat → Int32} {f13 : Nat → Nat → Int32} (h0 : ((v 9) < 6)) (h1 : gsX_X9_advance_1 NF v f = (v3, f4)) (h2 : gsX_X6_name_1 NF (v 9) v3 f4 = (1, v7, f8)) (h4 : gsX_X6_labelled_1 NF 109 99 v7 f8 = (r10, v12, f13)) (h5 : ¬ (0 ≤ r10)) : gsX_X6_manLine_1 NF v f = (0, v12, f13) := by
  simp only [gsX_X6_manLine_1, if_pos h0, h1, h2, h4, if_neg h5, ite11, ite01, if_true, if_false]
theorem gsX_X6_manLine_1_q5 {NF : Nat} {v : Nat → Int32} {f : Nat → Nat → Int32} {v3 : Nat → Int32} {f4 : Nat → Nat → Int32} {v7 : Nat → Int32} {f8 : Nat → Nat → Int32} (h0 : ((v 9) < 6)) (h1 : gsX_X9_advance_1 NF v f = (v3, f4)) (h2 : gsX_X6_name_1 NF (v 9) v3 f4 = (0, v7, f8)) : gsX_X6_manLine_1 NF v f = (0, v7, f8) := by
  simp only [gsX_X6_manLine_1, if_pos h0, h1, h2, ite11, ite01, if_true, if_false]
theorem gsX_X6_manLine_1_q6 {NF : Nat} {v : Nat → Int32} {f : Nat → Nat → Int32} {v34 : Nat → Int32} {f35 : Nat → Nat → Int32} (h0 : ¬ ((v 9) < 6)) (h1 : gsX_X6_refuse_1 NF v f = (1, v34, f35)) : gsX_X6_manLine_1 NF v f = (1, v34, f35) := by
  simp only [gsX_X6_manLine_1, if_neg h0, h1, ite11, ite01, if_true, if_false]
theorem gsX_X6_manLine_1_q7 {NF : Nat} {v : Nat → Int32} {f : Nat → Nat → Int32} {v34 : Nat → Int32} {f35 : Nat → Nat → Int32} (h0 : ¬ ((v 9) < 6)) (h1 : gsX_X6_refuse_1 NF v f = (0, v34, f35)) : gsX_X6_manLine_1 NF v f = (0, v34, f35) := by
  simp only [gsX_X6_manLine_1, if_neg h0, h1, ite11, ite01, if_true, if_false]
def gsX_X6_taken_1 (NF : Nat) (p1 : Int32) (v : Nat → Int32) (f : Nat → Nat → Int32) : Int32 × (Nat → Int32) × (Nat → Nat → Int32) :=
  if (v 2) = p1 then
    match gsX_X9_advance_1 NF v f with
    | (v5, f6) =>
      (1, v5, f6)
  else
    match gsX_X6_refuse_1 NF v f with
    | (r9, v11, f12) =>
      if r9 = 1 then
        (1, v11, f12)
      else
        (0, v11, f12)
theorem gsX_X6_taken_1_q0 {NF : Nat} {p1 : Int32} {v : Nat → Int32} {f : Nat → Nat → Int32} {v5 : Nat → Int32} {f6 : Nat → Nat → Int32} (h0 : ((v 2) = p1)) (h1 : gsX_X9_advance_1 NF v f = (v5, f6)) : gsX_X6_taken_1 NF p1 v f = (1, v5, f6) := by
  simp only [gsX_X6_taken_1, if_pos h0, h1]
theorem gsX_X6_taken_1_q1 {NF : Nat} {p1 : Int32} {v : Nat → Int32} {f : Nat → Nat → Int32} {v11 : Nat → Int32} {f12 : Nat → Nat → Int32} (h0 : ¬ ((v 2) = p1)) (h1 : gsX_X6_refuse_1 NF v f = (1, v11, f12)) : gsX_X6_taken_1 NF p1 v f = (1, v11, f12) := by
  simp only [gsX_X6_taken_1, if_neg h0, h1, ite11, ite01, if_true, if_false]
theorem gsX_X6_taken_1_q2 {NF : Nat} {p1 : Int32} {v : Nat → Int32} {f : Nat → Nat → Int32} {v11 : Nat → Int32} {f12 : Nat → Nat → Int32} (h0 : ¬ ((v 2) = p1)) (h1 : gsX_X6_refuse_1 NF v f = (0, v11, f12)) : gsX_X6_taken_1 NF p1 v f = (0, v11, f12) := by
  simp only [gsX_X6_taken_1, if_neg h0, h1, ite11, ite01, if_true, if_false]
def gsX_X6_closing_1 (NF : Nat) (v : Nat → Int32) (f : Nat → Nat → Int32) : Int32 × (Nat → Int32) × (Nat → Nat → Int32) :=
  match gsX_X6_taken_1 NF 59 v f with
  | (r1, v3, f4) =>
    if r1 = 1 then
      (1, v3, f4)
    else
      (0, v3, f4)
theorem gsX_X6_closing_1_q0 {NF : Nat} {v : Nat → Int32} {f : Nat → Nat → Int32} {v3 : Nat → Int32} {f4 : Nat → Nat → Int32} (h0 : gsX_X6_taken_1 NF 59 v f = (1, v3, f4)) : gsX_X6_closing_1 NF v f = (1, v3, f4) := by
  simp only [gsX_X6_closing_1, h0, ite11, ite01, if_true, if_false]
theorem gsX_X6_closing_1_q1 {NF : Nat} {v : Nat → Int32} {f : Nat → Nat → Int32} {v3 : Nat → Int32} {f4 : Nat → Nat → Int32} (h0 : gsX_X6_taken_1 NF 59 v f = (0, v3, f4)) : gsX_X6_closing_1 NF v f = (0, v3, f4) := by
  simp only [gsX_X6_closing_1, h0, ite11, ite01, if_true, if_false]
def gsX_X6_name_2_L2 (NF : Nat) (p2 : Int32) : Nat → (Int32) → (Nat → Int32) → (Nat → Nat → Int32) → Int32 × (Nat → Int32) × (Nat → Nat → Int32)
  | 0, _, _, _ => (0, (fun _ => 0), (fun _ _ => 0))
  | n2 + 1, l3_2, v2, f2 =>
    if p2 ≤ l3_2 then
      if p2 < 0 then
        match gsX_X9_advance_1 NF v2 f2 with
        | (v8, f9) =>
          (1, v8, f9)
      else
        if 6 ≤ p2 then
          match gsX_X9_advance_1 NF v2 f2 with
          | (v12, f13) =>
            (1, v12, f13)
        else
          let f14 : Nat → Nat → Int32 := upd2 f2 8 (upd (f2 8) p2.toNatClampNeg (v2 3))
          match gsX_X9_advance_1 NF v2 f14 with
          | (v16, f17) =>
            (1, v16, f17)
    else
      if 6 ≤ l3_2 then
        if p2 < 0 then
          match gsX_X9_advance_1 NF v2 f2 with
          | (v23, f24) =>
            (1, v23, f24)
        else
          if 6 ≤ p2 then
            match gsX_X9_advance_1 NF v2 f2 with
            | (v27, f28) =>
              (1, v27, f28)
          else
            let f29 : Nat → Nat → Int32 := upd2 f2 8 (upd (f2 8) p2.toNatClampNeg (v2 3))
            match gsX_X9_advance_1 NF v2 f29 with
            | (v31, f32) =>
              (1, v31, f32)
      else
        let t33 : Int32 := f2 8 (l3_2).toNatClampNeg
        if gsX_X9_sameWord_1 NF t33 (v2 3) v2 f2 = 1 then
          match gsX_X6_refuseAs_1 NF 3 v2 f2 with
          | (r37, v39, f40) =>
            if r37 = 1 then
              (1, v39, f40)
            else
              (0, v39, f40)
        else
          let t42 : Int32 := l3_2 + 1
          gsX_X6_name_2_L2 NF p2 n2 t42 v2 f2
def gsX_X6_name_2 (NF : Nat) (p2 : Int32) (v : Nat → Int32) (f : Nat → Nat → Int32) : Int32 × (Nat → Int32) × (Nat → Nat → Int32) :=
  if (v 2) = 3 then
    gsX_X6_name_2_L2 NF p2 (4294967296 + NF) 0 v f
  else
    match gsX_X6_refuse_1 NF v f with
    | (r44, v46, f47) =>
      if r44 = 1 then
        (1, v46, f47)
      else
        (0, v46, f47)
theorem gsX_X6_name_2_q9 {NF : Nat} {p2 : Int32} {v : Nat → Int32} {f : Nat → Nat → Int32} (h0 : ((v 2) = 3)) : gsX_X6_name_2 NF p2 v f = gsX_X6_name_2_L2 NF p2 (4294967296 + NF) 0 v f := by
  simp only [gsX_X6_name_2, if_pos h0]
theorem gsX_X6_name_2_q10 {NF : Nat} {p2 : Int32} {v : Nat → Int32} {f : Nat → Nat → Int32} {v46 : Nat → Int32} {f47 : Nat → Nat → Int32} (h0 : ¬ ((v 2) = 3)) (h1 : gsX_X6_refuse_1 NF v f = (1, v46, f47)) : gsX_X6_name_2 NF p2 v f = (1, v46, f47) := by
  simp only [gsX_X6_name_2, if_neg h0, h1, ite11, ite01, if_true, if_false]
theorem gsX_X6_name_2_q11 {NF : Nat} {p2 : Int32} {v : Nat → Int32} {f : Nat → Nat → Int32} {v46 : Nat → Int32} {f47 : Nat → Nat → Int32} (h0 : ¬ ((v 2) = 3)) (h1 : gsX_X6_refuse_1 NF v f = (0, v46, f47)) : gsX_X6_name_2 NF p2 v f = (0, v46, f47) := by
  simp only [gsX_X6_name_2, if_neg h0, h1, ite11, ite01, if_true, if_false]
theorem gsX_X6_name_2_q0 {NF : Nat} {p2 : Int32} {n2 : Nat} {l3_2 : Int32} {v2 : Nat → Int32} {f2 : Nat → Nat → Int32} {v8 : Nat → Int32} {f9 : Nat → Nat → Int32} (h0 : (p2 ≤ l3_2)) (h1 : (p2 < 0)) (h2 : gsX_X9_advance_1 NF v2 f2 = (v8, f9)) : gsX_X6_name_2_L2 NF p2 (n2 + 1) l3_2 v2 f2 = (1, v8, f9) := by
  simp only [gsX_X6_name_2_L2, if_pos h0, if_pos h1, h2]
theorem gsX_X6_name_2_q1 {NF : Nat} {p2 : Int32} {n2 : Nat} {l3_2 : Int32} {v2 : Nat → Int32} {f2 : Nat → Nat → Int32} {v12 : Nat → Int32} {f13 : Nat → Nat → Int32} (h0 : (p2 ≤ l3_2)) (h1 : ¬ (p2 < 0)) (h2 : (6 ≤ p2)) (h3 : gsX_X9_advance_1 NF v2 f2 = (v12, f13)) : gsX_X6_name_2_L2 NF p2 (n2 + 1) l3_2 v2 f2 = (1, v12, f13) := by
  simp only [gsX_X6_name_2_L2, if_pos h0, if_neg h1, if_pos h2, h3]
theorem gsX_X6_name_2_q2 {NF : Nat} {p2 : Int32} {n2 : Nat} {l3_2 : Int32} {v2 : Nat → Int32} {f2 : Nat → Nat → Int32} {f14 : Nat → Nat → Int32} {v16 : Nat → Int32} {f17 : Nat → Nat → Int32} (h0 : (p2 ≤ l3_2)) (h1 : ¬ (p2 < 0)) (h2 : ¬ (6 ≤ p2)) (h3 : f14 = upd2 f2 8 (upd (f2 8) p2.toNatClampNeg (v2 3))) (h4 : gsX_X9_advance_1 NF v2 f14 = (v16, f17)) : gsX_X6_name_2_L2 NF p2 (n2 + 1) l3_2 v2 f2 = (1, v16, f17) := by
  subst h3
  simp only [gsX_X6_name_2_L2, if_pos h0, if_neg h1, if_neg h2, h4]
theorem gsX_X6_name_2_q3 {NF : Nat} {p2 : Int32} {n2 : Nat} {l3_2 : Int32} {v2 : Nat → Int32} {f2 : Nat → Nat → Int32} {v23 : Nat → Int32} {f24 : Nat → Nat → Int32} (h0 : ¬ (p2 ≤ l3_2)) (h1 : (6 ≤ l3_2)) (h2 : (p2 < 0)) (h3 : gsX_X9_advance_1 NF v2 f2 = (v23, f24)) : gsX_X6_name_2_L2 NF p2 (n2 + 1) l3_2 v2 f2 = (1, v23, f24) := by
  simp only [gsX_X6_name_2_L2, if_neg h0, if_pos h1, if_pos h2, h3]
theorem gsX_X6_name_2_q4 {NF : Nat} {p2 : Int32} {n2 : Nat} {l3_2 : Int32} {v2 : Nat → Int32} {f2 : Nat → Nat → Int32} {v27 : Nat → Int32} {f28 : Nat → Nat → Int32} (h0 : ¬ (p2 ≤ l3_2)) (h1 : (6 ≤ l3_2)) (h2 : ¬ (p2 < 0)) (h3 : (6 ≤ p2)) (h4 : gsX_X9_advance_1 NF v2 f2 = (v27, f28)) : gsX_X6_name_2_L2 NF p2 (n2 + 1) l3_2 v2 f2 = (1, v27, f28) := by
  simp only [gsX_X6_name_2_L2, if_neg h0, if_pos h1, if_neg h2, if_pos h3, h4]
theorem gsX_X6_name_2_q5 {NF : Nat} {p2 : Int32} {n2 : Nat} {l3_2 : Int32} {v2 : Nat → Int32} {f2 : Nat → Nat → Int32} {f29 : Nat → Nat → Int32} {v31 : Nat → Int32} {f32 : Nat → Nat → Int32} (h0 : ¬ (p2 ≤ l3_2)) (h1 : (6 ≤ l3_2)) (h2 : ¬ (p2 < 0)) (h3 : ¬ (6 ≤ p2)) (h4 : f29 = upd2 f2 8 (upd (f2 8) p2.toNatClampNeg (v2 3))) (h5 : gsX_X9_advance_1 NF v2 f29 = (v31, f32)) : gsX_X6_name_2_L2 NF p2 (n2 + 1) l3_2 v2 f2 = (1, v31, f32) := by
  subst h4
  simp only [gsX_X6_name_2_L2, if_neg h0, if_pos h1, if_neg h2, if_neg h3, h5]
theorem gsX_X6_name_2_q6 {NF : Nat} {p2 : Int32} {n2 : Nat} {l3_2 : Int32} {v2 : Nat → Int32} {f2 : Nat → Nat → Int32} {t33 : Int32} {v39 : Nat → Int32} {f40 : Nat → Nat → Int32} (h0 : ¬ (p2 ≤ l3_2)) (h1 : ¬ (6 ≤ l3_2)) (h2 : t33 = f2 8 (l3_2).toNatClampNeg) (h3 : gsX_X9_sameWord_1 NF t33 (v2 3) v2 f2 = 1) (h4 : gsX_X6_refuseAs_1 NF 3 v2 f2 = (1, v39, f40)) : gsX_X6_name_2_L2 NF p2 (n2 + 1) l3_2 v2 f2 = (1, v39, f40) := by
  subst h2
  simp only [gsX_X6_name_2_L2, if_neg h0, if_neg h1, h3, h4, ite11, ite01, if_true, if_false]
theorem gsX_X6_name_2_q7 {NF : Nat} {p2 : Int32} {n2 : Nat} {l3_2 : Int32} {v2 : Nat → Int32} {f2 : Nat → Nat → Int32} {t33 : Int32} {v39 : Nat → Int32} {f40 : Nat → Nat → Int32} (h0 : ¬ (p2 ≤ l3_2)) (h1 : ¬ (6 ≤ l3_2)) (h2 : t33 = f2 8 (l3_2).toNatClampNeg) (h3 : gsX_X9_sameWord_1 NF t33 (v2 3) v2 f2 = 1) (h4 : gsX_X6_refuseAs_1 NF 3 v2 f2 = (0, v39, f40)) : gsX_X6_name_2_L2 NF p2 (n2 + 1) l3_2 v2 f2 = (0, v39, f40) := by
  subst h2
  simp only [gsX_X6_name_2_L2, if_neg h0, if_neg h1, h3, h4, ite11, ite01, if_true, if_false]
theorem gsX_X6_name_2_q8 {NF : Nat} {p2 : Int32} {n2 : Nat} {l3_2 : Int32} {v2 : Nat → Int32} {f2 : Nat → Nat → Int32} {t33 : Int32} {t42 : Int32} (h0 : ¬ (p2 ≤ l3_2)) (h1 : ¬ (6 ≤ l3_2)) (h2 : t33 = f2 8 (l3_2).toNatClampNeg) (h3 : gsX_X9_sameWord_1 NF t33 (v2 3) v2 f2 = 0) (h4 : t42 = l3_2 + 1) : gsX_X6_name_2_L2 NF p2 (n2 + 1) l3_2 v2 f2 = gsX_X6_name_2_L2 NF p2 n2 t42 v2 f2 := by
  subst h2 h4
  simp only [gsX_X6_name_2_L2, if_neg h0, if_neg h1, h3, ite11, ite01, if_true, if_false]
def gsX_X7_addCoat_1 (NF : Nat) (p1 : Int32) (p2 : Int32) (p3 : Int32) (p4 : Int32) (v : Nat → Int32) (f : Nat → Nat → Int32) : (Nat → Int32) × (Nat → Nat → Int32) :=
  if 6 ≤ (v 10) then
    (v, f)
  else
    let t2 : Int32 := 0 + (v 10)
    let f4 : Nat → Nat → Int32 := upd2 f 2 (upd (f 2) t2.toNatClampNeg p1)
    let t5 : Int32 := 6 + (v 10)
    let f6 : Nat → Nat → Int32 := upd2 f4 2 (upd (f4 2) t5.toNatClampNeg p2)
    let t7 : Int32 := 12 + (v 10)
    let f8 : Nat → Nat → Int32 := upd2 f6 2 (upd (f6 2) t7.toNatClampNeg p3)
    let t9 : Int32 := 18 + (v 10)
    let f10 : Nat → Nat → Int32 := upd2 f8 2 (upd (f8 2) t9.toNatClampNeg p4)
    let t11 : Int32 := (v 10) + 1
    ((upd v 10 t11), f10)
theorem gsX_X7_addCoat_1_q0 {NF : Nat} {p1 : Int32} {p2 : Int32} {p3 : Int32} {p4 : Int32} {v : Nat → Int32} {f : Nat → Nat → Int32} (h0 : (6 ≤ (v 10))) : gsX_X7_addCoat_1 NF p1 p2 p3 p4 v f = (v, f) := by
  simp only [gsX_X7_addCoat_1, if_pos h0]
theorem gsX_X7_addCoat_1_q1 {NF : Nat} {p1 : Int32} {p2 : Int32} {p3 : Int32} {p4 : Int32} {v : Nat → Int32} {f : Nat → Nat → Int32} {t2 : Int32} {f4 : Nat → Nat → Int32} {t5 : Int32} {f6 : Nat → Nat → Int32} {t7 : Int32} {f8 : Nat → Nat → Int32} {t9 : Int32} {f10 : Nat → Nat → Int32} {t11 : Int32} (h0 : ¬ (6 ≤ (v 10))) (h1 : t2 = 0 + (v 10)) (h2 : f4 = upd2 f 2 (upd (f 2) t2.toNatClampNeg p1)) (h3 : t5 = 6 + (v 10)) (h4 : f6 = upd2 f4 2 (upd (f4 2) t5.toNatClampNeg p2)) (h5 : t7 = 12 + (v 10)) (h6 : f8 = upd2 f6 2 (upd (f6 2) t7.toNatClampNeg p3)) (h7 : t9 = 18 + (v 10)) (h8 : f10 = upd2 f8 2 (upd (f8 2) t9.toNatClampNeg p4)) (h9 : t11 = (v 10) + 1) : gsX_X7_addCoat_1 NF p1 p2 p3 p4 v f = ((upd v 10 t11), f10) := by
  subst h1 h2 h3 h4 h5 h6 h7 h8 h9
  simp only [gsX_X7_addCoat_1, if_neg h0]
def gsX_X6_coatLine_1 (NF : Nat) (v : Nat → Int32) (f : Nat → Nat → Int32) : Int32 × (Nat → Int32) × (Nat → Nat → Int32) :=
  if (v 10) < 6 then
    match gsX_X9_advance_1 NF v f with
    | (v3, f4) =>
      match gsX_X6_name_2 NF (v 10) v3 f4 with
      | (r5, v7, f8) =>
        if r5 = 1 then
          match gsX_X6_labelled_1 NF 109 99 v7 f8 with
          | (r10, v12, f13) =>
            if 0 ≤ r10 then
              match gsX_X6_labelled_1 NF 110 99 v12 f13 with
              | (r15, v17, f18) =>
                if 0 ≤ r15 then
                  if (v17 2) = 112 then
                    match gsX_X6_labelled_1 NF 112 20 v17 f18 with
                    | (r33, v35, f36) =>
                      if 0 ≤ r33 then
                        if (v35 2) = 120 then
                          match gsX_X6_labelled_1 NF 120 99 v35 f36 with
                          | (r42, v44, f45) =>
                            if 0 ≤ r42 then
                              match gsX_X7_addCoat_1 NF r10 r15 r33 r42 v44 f45 with
                              | (v48, f49) =>
                                (1, v48, f49)
                            else
                              (0, v44, f45)
                        else
                          match gsX_X7_addCoat_1 NF r10 r15 r33 0 v35 f36 with
                          | (v40, f41) =>
                            (1, v40, f41)
                      else
                        (0, v35, f36)
                  else
                    if (v17 2) = 120 then
                      match gsX_X6_labelled_1 NF 120 99 v17 f18 with
                      | (r25, v27, f28) =>
                        if 0 ≤ r25 then
                          match gsX_X7_addCoat_1 NF r10 r15 0 r25 v27 f28 with
                          | (v31, f32) =>
                            (1, v31, f32)
                        else
                          (0, v27, f28)
                    else
                      match gsX_X7_addCoat_1 NF r10 r15 0 0 v17 f18 with
                      | (v23, f24) =>
                        (1, v23, f24)
                else
                  (0, v17, f18)
            else
              (0, v12, f13)
        else
          (0, v7, f8)
  else
    match gsX_X6_refuse_1 NF v f with
    | (r50, v52, f53) =>
      if r50 = 1 then
        (1, v52, f53)
      else
        (0, v52, f53)
theorem gsX_X6_coatLine_1_q0 {NF : Nat} {v : Nat → Int32} {f : Nat → Nat → Int32} {v3 : Nat → Int32} {f4 : Nat → Nat → Int32} {v7 : Nat → Int32} {f8 : Nat → Nat → Int32} {r10 : Int32} {v12 : Nat → Int32} {f13 : Nat → Nat → Int32} {r15 : Int32} {v17 : Nat → Int32} {f18 : Nat → Nat → Int32} {v23 : Nat → Int32} {f24 : Nat → Nat → Int32} (h0 : ((v 10) < 6)) (h1 : gsX_X9_advance_1 NF v f = (v3, f4)) (h2 : gsX_X6_name_2 NF (v 10) v3 f4 = (1, v7, f8)) (h4 : gsX_X6_labelled_1 NF 109 99 v7 f8 = (r10, v12, f13)) (h5 : (0 ≤ r10)) (h6 : gsX_X6_labelled_1 NF 110 99 v12 f13 = (r15, v17, f18)) (h7 : (0 ≤ r15)) (h8 : ¬ ((v17 2) = 112)) (h9 : ¬ ((v17 2) = 120)) (h10 : gsX_X7_addCoat_1 NF r10 r15 0 0 v17 f18 = (v23, f24)) : gsX_X6_coatLine_1 NF v f = (1, v23, f24) := by
  simp only [gsX_X6_coatLine_1, if_pos h0, h1, h2, h4, if_pos h5, h6, if_pos h7, if_neg h8, if_neg h9, h10, ite11, ite01, if_true, if_false]
theorem gsX_X6_coatLine_1_q1 {NF : Nat} {v : Nat → Int32} {f : Nat → Nat → Int32} {v3 : Nat → Int32} {f4 : Nat → Nat → Int32} {v7 : Nat → Int32} {f8 : Nat → Nat → Int32} {r10 : Int32} {v12 : Nat → Int32} {f13 : Nat → Nat → Int32} {r15 : Int32} {v17 : Nat → Int32} {f18 : Nat → Nat → Int32} {r25 : Int32} {v27 : Nat → Int32} {f28 : Nat → Nat → Int32} {v31 : Nat → Int32} {f32 : Nat → Nat → Int32} (h0 : ((v 10) < 6)) (h1 : gsX_X9_advance_1 NF v f = (v3, f4)) (h2 : gsX_X6_name_2 NF (v 10) v3 f4 = (1, v7, f8)) (h4 : gsX_X6_labelled_1 NF 109 99 v7 f8 = (r10, v12, f13)) (h5 : (0 ≤ r10)) (h6 : gsX_X6_labelled_1 NF 110 99 v12 f13 = (r15, v17, f18)) (h7 : (0 ≤ r15)) (h8 : ¬ ((v17 2) = 112)) (h9 : ((v17 2) = 120)) (h10 : gsX_X6_labelled_1 NF 120 99 v17 f18 = (r25, v27, f28)) (h11 : (0 ≤ r25)) (h12 : gsX_X7_addCoat_1 NF r10 r15 0 r25 v27 f28 = (v31, f32)) : gsX_X6_coatLine_1 NF v f = (1, v31, f32) := by
  simp only [gsX_X6_coatLine_1, if_pos h0, h1, h2, h4, if_pos h5, h6, if_pos h7, if_neg h8, if_pos h9, h10, if_pos h11, h12, ite11, ite01, if_true, if_false]
theorem gsX_X6_coatLine_1_q2 {NF : Nat} {v : Nat → Int32} {f : Nat → Nat → Int32} {v3 : Nat → Int32} {f4 : Nat → Nat → Int32} {v7 : Nat → Int32} {f8 : Nat → Nat → Int32} {r10 : Int32} {v12 : Nat → Int32} {f13 : Nat → Nat → Int32} {r15 : Int32} {v17 : Nat → Int32} {f18 : Nat → Nat → Int32} {r25 : Int32} {v27 : Nat → Int32} {f28 : Nat → Nat → Int32} (h0 : ((v 10) < 6)) (h1 : gsX_X9_advance_1 NF v f = (v3, f4)) (h2 : gsX_X6_name_2 NF (v 10) v3 f4 = (1, v7, f8)) (h4 : gsX_X6_labelled_1 NF 109 99 v7 f8 = (r10, v12, f13)) (h5 : (0 ≤ r10)) (h6 : gsX_X6_labelled_1 NF 110 99 v12 f13 = (r15, v17, f18)) (h7 : (0 ≤ r15)) (h8 : ¬ ((v17 2) = 112)) (h9 : ((v17 2) = 120)) (h10 : gsX_X6_labelled_1 NF 120 99 v17 f18 = (r25, v27, f28)) (h11 : ¬ (0 ≤ r25)) : gsX_X6_coatLine_1 NF v f = (0, v27, f28) := by
  simp only [gsX_X6_coatLine_1, if_pos h0, h1, h2, h4, if_pos h5, h6, if_pos h7, if_neg h8, if_pos h9, h10, if_neg h11, ite11, ite01, if_true, if_false]
theorem gsX_X6_coatLine_1_q3 {NF : Nat} {v : Nat → Int32} {f : Nat → Nat → Int32} {v3 : Nat → Int32} {f4 : Nat → Nat → Int32} {v7 : Nat → Int32} {f8 : Nat → Nat → Int32} {r10 : Int32} {v12 : Nat → Int32} {f13 : Nat → Nat → Int32} {r15 : Int32} {v17 : Nat → Int32} {f18 : Nat → Nat → Int32} {r33 : Int32} {v35 : Nat → Int32} {f36 : Nat → Nat → Int32} {v40 : Nat → Int32} {f41 : Nat → Nat → Int32} (h0 : ((v 10) < 6)) (h1 : gsX_X9_advance_1 NF v f = (v3, f4)) (h2 : gsX_X6_name_2 NF (v 10) v3 f4 = (1, v7, f8)) (h4 : gsX_X6_labelled_1 NF 109 99 v7 f8 = (r10, v12, f13)) (h5 : (0 ≤ r10)) (h6 : gsX_X6_labelled_1 NF 110 99 v12 f13 = (r15, v17, f18)) (h7 : (0 ≤ r15)) (h8 : ((v17 2) = 112)) (h9 : gsX_X6_labelled_1 NF 112 20 v17 f18 = (r33, v35, f36)) (h10 : (0 ≤ r33)) (h11 : ¬ ((v35 2) = 120)) (h12 : gsX_X7_addCoat_1 NF r10 r15 r33 0 v35 f36 = (v40, f41)) : gsX_X6_coatLine_1 NF v f = (1, v40, f41) := by
  simp only [gsX_X6_coatLine_1, if_pos h0, h1, h2, h4, if_pos h5, h6, if_pos h7, if_pos h8, h9, if_pos h10, if_neg h11, h12, ite11, ite01, if_true, if_false]
theorem gsX_X6_coatLine_1_q4 {NF : Nat} {v : Nat → Int32} {f : Nat → Nat → Int32} {v3 : Nat → Int32} {f4 : Nat → Nat → Int32} {v7 : Nat → Int32} {f8 : Nat → Nat → Int32} {r10 : Int32} {v12 : Nat → Int32} {f13 : Nat → Nat → Int32} {r15 : Int32} {v17 : Nat → Int32} {f18 : Nat → Nat → Int32} {r33 : Int32} {v35 : Nat → Int32} {f36 : Nat → Nat → Int32} {r42 : Int32} {v44 : Nat → Int32} {f45 : Nat → Nat → Int32} {v48 : Nat → Int32} {f49 : Nat → Nat → Int32} (h0 : ((v 10) < 6)) (h1 : gsX_X9_advance_1 NF v f = (v3, f4)) (h2 : gsX_X6_name_2 NF (v 10) v3 f4 = (1, v7, f8)) (h4 : gsX_X6_labelled_1 NF 109 99 v7 f8 = (r10, v12, f13)) (h5 : (0 ≤ r10)) (h6 : gsX_X6_labelled_1 NF 110 99 v12 f13 = (r15, v17, f18)) (h7 : (0 ≤ r15)) (h8 : ((v17 2) = 112)) (h9 : gsX_X6_labelled_1 NF 112 20 v17 f18 = (r33, v35, f36)) (h10 : (0 ≤ r33)) (h11 : ((v35 2) = 120)) (h12 : gsX_X6_labelled_1 NF 120 99 v35 f36 = (r42, v44, f45)) (h13 : (0 ≤ r42)) (h14 : gsX_X7_addCoat_1 NF r10 r15 r33 r42 v44 f45 = (v48, f49)) : gsX_X6_coatLine_1 NF v f = (1, v48, f49) := by
  simp only [gsX_X6_coatLine_1, if_pos h0, h1, h2, h4, if_pos h5, h6, if_pos h7, if_pos h8, h9, if_pos h10, if_pos h11, h12, if_pos h13, h14, ite11, ite01, if_true, if_false]
theorem gsX_X6_coatLine_1_q5 {NF : Nat} {v : Nat → Int32} {f : Nat → Nat → Int32} {v3 : Nat → Int32} {f4 : Nat → Nat → Int32} {v7 : Nat → Int32} {f8 : Nat → Nat → Int32} {r10 : Int32} {v12 : Nat → Int32} {f13 : Nat → Nat → Int32} {r15 : Int32} {v17 : Nat → Int32} {f18 : Nat → Nat → Int32} {r33 : Int32} {v35 : Nat → Int32} {f36 : Nat → Nat → Int32} {r42 : Int32} {v44 : Nat → Int32} {f45 : Nat → Nat → Int32} (h0 : ((v 10) < 6)) (h1 : gsX_X9_advance_1 NF v f = (v3, f4)) (h2 : gsX_X6_name_2 NF (v 10) v3 f4 = (1, v7, f8)) (h4 : gsX_X6_labelled_1 NF 109 99 v7 f8 = (r10, v12, f13)) (h5 : (0 ≤ r10)) (h6 : gsX_X6_labelled_1 NF 110 99 v12 f13 = (r15, v17, f18)) (h7 : (0 ≤ r15)) (h8 : ((v17 2) = 112)) (h9 : gsX_X6_labelled_1 NF 112 20 v17 f18 = (r33, v35, f36)) (h10 : (0 ≤ r33)) (h11 : ((v35 2) = 120)) (h12 : gsX_X6_labelled_1 NF 120 99 v35 f36 = (r42, v44, f45)) (h13 : ¬ (0 ≤ r42)) : gsX_X6_coatLine_1 NF v f = (0, v44, f45) := by
  simp only [gsX_X6_coatLine_1, if_pos h0, h1, h2, h4, if_pos h5, h6, if_pos h7, if_pos h8, h9, if_pos h10, if_pos h11, h12, if_neg h13, ite11, ite01, if_true, if_false]
theorem gsX_X6_coatLine_1_q6 {NF : Nat} {v : Nat → Int32} {f : Nat → Nat → Int32} {v3 : Nat → Int32} {f4 : Nat → Nat → Int32} {v7 : Nat → Int32} {f8 : Nat → Nat → Int32} {r10 : Int32} {v12 : Nat → Int32} {f13 : Nat → Nat → Int32} {r15 : Int32} {v17 : Nat → Int32} {f18 : Nat → Nat → Int32} {r33 : Int32} {v35 : Nat → Int32} {f36 : Nat → Nat → Int32} (h0 : ((v 10) < 6)) (h1 : gsX_X9_advance_1 NF v f = (v3, f4)) (h2 : gsX_X6_name_2 NF (v 10) v3 f4 = (1, v7, f8)) (h4 : gsX_X6_labelled_1 NF 109 99 v7 f8 = (r10, v12, f13)) (h5 : (0 ≤ r10)) (h6 : gsX_X6_labelled_1 NF 110 99 v12 f13 = (r15, v17, f18)) (h7 : (0 ≤ r15)) (h8 : ((v17 2) = 112)) (h9 : gsX_X6_labelled_1 NF 112 20 v17 f18 = (r33, v35, f36)) (h10 : ¬ (0 ≤ r33)) : gsX_X6_coatLine_1 NF v f = (0, v35, f36) := by
  simp only [gsX_X6_coatLine_1, if_pos h0, h1, h2, h4, if_pos h5, h6, if_pos h7, if_pos h8, h9, if_neg h10, ite11, ite01, if_true, if_false]
theorem gsX_X6_coatLine_1_q7 {NF : Nat} {v : Nat → Int32} {f : Nat → Nat → Int32} {v3 : Nat → Int32} {f4 : Nat → Nat → Int32} {v7 : Nat → Int32} {f8 : Nat → Nat → Int32} {r10 : Int32} {v12 : Nat → Int32} {f13 : Nat → Nat → Int32} {r15 : Int32} {v17 : Nat → Int32} {f18 : Nat → Nat → Int32} (h0 : ((v 10) < 6)) (h1 : gsX_X9_advance_1 NF v f = (v3, f4)) (h2 : gsX_X6_name_2 NF (v 10) v3 f4 = (1, v7, f8)) (h4 : gsX_X6_labelled_1 NF 109 99 v7 f8 = (r10, v12, f13)) (h5 : (0 ≤ r10)) (h6 : gsX_X6_labelled_1 NF 110 99 v12 f13 = (r15, v17, f18)) (h7 : ¬ (0 ≤ r15)) : gsX_X6_coatLine_1 NF v f = (0, v17, f18) := by
  simp only [gsX_X6_coatLine_1, if_pos h0, h1, h2, h4, if_pos h5, h6, if_neg h7, ite11, ite01, if_true, if_false]
theorem gsX_X6_coatLine_1_q8 {NF : Nat} {v : Nat → Int32} {f : Nat → Nat → Int32} {v3 : Nat → Int32} {f4 : Nat → Nat → Int32} {v7 : Nat → Int32} {f8 : Nat → Nat → Int32} {r10 : Int32} {v12 : Nat → Int32} {f13 : Nat → Nat → Int32} (h0 : ((v 10) < 6)) (h1 : gsX_X9_advance_1 NF v f = (v3, f4)) (h2 : gsX_X6_name_2 NF (v 10) v3 f4 = (1, v7, f8)) (h4 : gsX_X6_labelled_1 NF 109 99 v7 f8 = (r10, v12, f13)) (h5 : ¬ (0 ≤ r10)) : gsX_X6_coatLine_1 NF v f = (0, v12, f13) := by
  simp only [gsX_X6_coatLine_1, if_pos h0, h1, h2, h4, if_neg h5, ite11, ite01, if_true, if_false]
theorem gsX_X6_coatLine_1_q9 {NF : Nat} {v : Nat → Int32} {f : Nat → Nat → Int32} {v3 : Nat → Int32} {f4 : Nat → Nat → Int32} {v7 : Nat → Int32} {f8 : Nat → Nat → Int32} (h0 : ((v 10) < 6)) (h1 : gsX_X9_advance_1 NF v f = (v3, f4)) (h2 : gsX_X6_name_2 NF (v 10) v3 f4 = (0, v7, f8)) : gsX_X6_coatLine_1 NF v f = (0, v7, f8) := by
  simp only [gsX_X6_coatLine_1, if_pos h0, h1, h2, ite11, ite01, if_true, if_false]
theorem gsX_X6_coatLine_1_q10 {NF : Nat} {v : Nat → Int32} {f : Nat → Nat → Int32} {v52 : Nat → Int32} {f53 : Nat → Nat → Int32} (h0 : ¬ ((v 10) < 6)) (h1 : gsX_X6_refuse_1 NF v f = (1, v52, f53)) : gsX_X6_coatLine_1 NF v f = (1, v52, f53) := by
  simp only [gsX_X6_coatLine_1, if_neg h0, h1, ite11, ite01, if_true, if_false]
theorem gsX_X6_coatLine_1_q11 {NF : Nat} {v : Nat → Int32} {f : Nat → Nat → Int32} {v52 : Nat → Int32} {f53 : Nat → Nat → Int32} (h0 : ¬ ((v 10) < 6)) (h1 : gsX_X6_refuse_1 NF v f = (0, v52, f53)) : gsX_X6_coatLine_1 NF v f = (0, v52, f53) := by
  simp only [gsX_X6_coatLine_1, if_neg h0, h1, ite11, ite01, if_true, if_false]
def gsX_X6_opened_1 (NF : Nat) (p1 : Int32) (v : Nat → Int32) (f : Nat → Nat → Int32) : Int32 × (Nat → Int32) × (Nat → Nat → Int32) :=
  let t1 : Int32 := p1 - 103
  let t2 : Int32 := 1 <<< (t1 &&& 31)
  let t3 : Int32 := (v 6) &&& t2
  if t3 = 0 then
    let t5 : Int32 := (v 6) ||| t2
    match gsX_X9_advance_1 NF (upd v 6 t5) f with
    | (v7, f8) =>
      (1, v7, f8)
  else
    match gsX_X6_refuse_1 NF v f with
    | (r9, v11, f12) =>
      if r9 = 1 then
        (1, v11, f12)
      else
        (0, v11, f12)
theorem gsX_X6_opened_1_q0 {NF : Nat} {p1 : Int32} {v : Nat → Int32} {f : Nat → Nat → Int32} {t1 : Int32} {t2 : Int32} {t3 : Int32} {t5 : Int32} {v7 : Nat → Int32} {f8 : Nat → Nat → Int32} (h0 : t1 = p1 - 103) (h1 : t2 = 1 <<< (t1 &&& 31)) (h2 : t3 = (v 6) &&& t2) (h3 : (t3 = 0)) (h4 : t5 = (v 6) ||| t2) (h5 : gsX_X9_advance_1 NF (upd v 6 t5) f = (v7, f8)) : gsX_X6_opened_1 NF p1 v f = (1, v7, f8) := by
  subst h0 h1 h2 h4
  simp only [gsX_X6_opened_1, if_pos h3, h5]
theorem gsX_X6_opened_1_q1 {NF : Nat} {p1 : Int32} {v : Nat → Int32} {f : Nat → Nat → Int32} {t1 : Int32} {t2 : Int32} {t3 : Int32} {v11 : Nat → Int32} {f12 : Nat → Nat → Int32} (h0 : t1 = p1 - 103) (h1 : t2 = 1 <<< (t1 &&& 31)) (h2 : t3 = (v 6) &&& t2) (h3 : ¬ (t3 = 0)) (h4 : gsX_X6_refuse_1 NF v f = (1, v11, f12)) : gsX_X6_opened_1 NF p1 v f = (1, v11, f12) := by
  subst h0 h1 h2
  simp only [gsX_X6_opened_1, if_neg h3, h4, ite11, ite01, if_true, if_false]
theorem gsX_X6_opened_1_q2 {NF : Nat} {p1 : Int32} {v : Nat → Int32} {f : Nat → Nat → Int32} {t1 : Int32} {t2 : Int32} {t3 : Int32} {v11 : Nat → Int32} {f12 : Nat → Nat → Int32} (h0 : t1 = p1 - 103) (h1 : t2 = 1 <<< (t1 &&& 31)) (h2 : t3 = (v 6) &&& t2) (h3 : ¬ (t3 = 0)) (h4 : gsX_X6_refuse_1 NF v f = (0, v11, f12)) : gsX_X6_opened_1 NF p1 v f = (0, v11, f12) := by
  subst h0 h1 h2
  simp only [gsX_X6_opened_1, if_neg h3, h4, ite11, ite01, if_true, if_false]
def gsX_X4_add_1 (NF : Nat) (p1 : Int32) (p2 : Int32) (v : Nat → Int32) (f : Nat → Nat → Int32) : (Nat → Int32) × (Nat → Nat → Int32) :=
  if 300 ≤ (v 16) then
    (v, f)
  else
    let f2 : Nat → Nat → Int32 := upd2 f 3 (upd (f 3) (v 16).toNatClampNeg p1)
    let f3 : Nat → Nat → Int32 := upd2 f2 4 (upd (f2 4) (v 16).toNatClampNeg p2)
    let t4 : Int32 := (v 16) + 1
    ((upd v 16 t4), f3)
theorem gsX_X4_add_1_q0 {NF : Nat} {p1 : Int32} {p2 : Int32} {v : Nat → Int32} {f : Nat → Nat → Int32} (h0 : (300 ≤ (v 16))) : gsX_X4_add_1 NF p1 p2 v f = (v, f) := by
  simp only [gsX_X4_add_1, if_pos h0]
theorem gsX_X4_add_1_q1 {NF : Nat} {p1 : Int32} {p2 : Int32} {v : Nat → Int32} {f : Nat → Nat → Int32} {f2 : Nat → Nat → Int32} {f3 : Nat → Nat → Int32} {t4 : Int32} (h0 : ¬ (300 ≤ (v 16))) (h1 : f2 = upd2 f 3 (upd (f 3) (v 16).toNatClampNeg p1)) (h2 : f3 = upd2 f2 4 (upd (f2 4) (v 16).toNatClampNeg p2)) (h3 : t4 = (v 16) + 1) : gsX_X4_add_1 NF p1 p2 v f = ((upd v 16 t4), f3) := by
  subst h1 h2 h3
  simp only [gsX_X4_add_1, if_neg h0]
def gsX_X6_unit_8 (NF : Nat) (v : Nat → Int32) (f : Nat → Nat → Int32) : Int32 × (Nat → Int32) × (Nat → Nat → Int32) :=
  if (v 2) = 2 then
    if (v 17) < 30 then
      match gsX_X4_add_1 NF (v 2) (v 5) v f with
      | (v4, f5) =>
        let t6 : Int32 := (v4 17) + 1
        match gsX_X9_advance_1 NF (upd v4 17 t6) f5 with
        | (v8, f9) =>
          (1, v8, f9)
    else
      match gsX_X6_refuse_1 NF v f with
      | (r10, v12, f13) =>
        if r10 = 1 then
          (1, v12, f13)
        else
          (0, v12, f13)
  else
    if (v 2) < 116 then
      if (v 2) = 40 then
        if (v 17) < 30 then
          match gsX_X6_refuse_1 NF v f with
          | (r23, v25, f26) =>
            if r23 = 1 then
              (1, v25, f26)
            else
              (0, v25, f26)
        else
          match gsX_X6_refuse_1 NF v f with
          | (r28, v30, f31) =>
            if r28 = 1 then
              (1, v30, f31)
            else
              (0, v30, f31)
      else
        match gsX_X6_refuse_1 NF v f with
        | (r17, v19, f20) =>
          if r17 = 1 then
            (1, v19, f20)
          else
            (0, v19, f20)
    else
      if 121 < (v 2) then
        if (v 2) = 40 then
          if (v 17) < 30 then
            match gsX_X6_refuse_1 NF v f with
            | (r41, v43, f44) =>
              if r41 = 1 then
                (1, v43, f44)
              else
                (0, v43, f44)
          else
            match gsX_X6_refuse_1 NF v f with
            | (r46, v48, f49) =>
              if r46 = 1 then
                (1, v48, f49)
              else
                (0, v48, f49)
        else
          match gsX_X6_refuse_1 NF v f with
          | (r35, v37, f38) =>
            if r35 = 1 then
              (1, v37, f38)
            else
              (0, v37, f38)
      else
        if (v 17) < 30 then
          match gsX_X4_add_1 NF (v 2) (v 5) v f with
          | (v53, f54) =>
            let t55 : Int32 := (v53 17) + 1
            match gsX_X9_advance_1 NF (upd v53 17 t55) f54 with
            | (v57, f58) =>
              (1, v57, f58)
        else
          match gsX_X6_refuse_1 NF v f with
          | (r59, v61, f62) =>
            if r59 = 1 then
              (1, v61, f62)
            else
              (0, v61, f62)
theorem gsX_X6_unit_8_q0 {NF : Nat} {v : Nat → Int32} {f : Nat → Nat → Int32} {v4 : Nat → Int32} {f5 : Nat → Nat → Int32} {t6 : Int32} {v8 : Nat → Int32} {f9 : Nat → Nat → Int32} (h0 : ((v 2) = 2)) (h1 : ((v 17) < 30)) (h2 : gsX_X4_add_1 NF (v 2) (v 5) v f = (v4, f5)) (h3 : t6 = (v4 17) + 1) (h4 : gsX_X9_advance_1 NF (upd v4 17 t6) f5 = (v8, f9)) : gsX_X6_unit_8 NF v f = (1, v8, f9) := by
  subst h3
  simp only [gsX_X6_unit_8, stk_eq, if_pos h0, if_pos h1, h2, h4]
theorem gsX_X6_unit_8_q1 {NF : Nat} {v : Nat → Int32} {f : Nat → Nat → Int32} {v12 : Nat → Int32} {f13 : Nat → Nat → Int32} (h0 : ((v 2) = 2)) (h1 : ¬ ((v 17) < 30)) (h2 : gsX_X6_refuse_1 NF v f = (1, v12, f13)) : gsX_X6_unit_8 NF v f = (1, v12, f13) := by
  simp only [gsX_X6_unit_8, stk_eq, if_pos h0, if_neg h1, h2, ite11, ite01, if_true, if_false]
theorem gsX_X6_unit_8_q2 {NF : Nat} {v : Nat → Int32} {f : Nat → Nat → Int32} {v12 : Nat → Int32} {f13 : Nat → Nat → Int32} (h0 : ((v 2) = 2)) (h1 : ¬ ((v 17) < 30)) (h2 : gsX_X6_refuse_1 NF v f = (0, v12, f13)) : gsX_X6_unit_8 NF v f = (0, v12, f13) := by
  simp only [gsX_X6_unit_8, stk_eq, if_pos h0, if_neg h1, h2, ite11, ite01, if_true, if_false]
theorem gsX_X6_unit_8_q3 {NF : Nat} {v : Nat → Int32} {f : Nat → Nat → Int32} {v19 : Nat → Int32} {f20 : Nat → Nat → Int32} (h0 : ¬ ((v 2) = 2)) (h1 : ((v 2) < 116)) (h2 : ¬ ((v 2) = 40)) (h3 : gsX_X6_refuse_1 NF v f = (1, v19, f20)) : gsX_X6_unit_8 NF v f = (1, v19, f20) := by
  simp only [gsX_X6_unit_8, stk_eq, if_neg h0, if_pos h1, if_neg h2, h3, ite11, ite01, if_true, if_false]
theorem gsX_X6_unit_8_q4 {NF : Nat} {v : Nat → Int32} {f : Nat → Nat → Int32} {v19 : Nat → Int32} {f20 : Nat → Nat → Int32} (h0 : ¬ ((v 2) = 2)) (h1 : ((v 2) < 116)) (h2 : ¬ ((v 2) = 40)) (h3 : gsX_X6_refuse_1 NF v f = (0, v19, f20)) : gsX_X6_unit_8 NF v f = (0, v19, f20) := by
  simp only [gsX_X6_unit_8, stk_eq, if_neg h0, if_pos h1, if_neg h2, h3, ite11, ite01, if_true, if_false]
theorem gsX_X6_unit_8_q5 {NF : Nat} {v : Nat → Int32} {f : Nat → Nat → Int32} {v25 : Nat → Int32} {f26 : Nat → Nat → Int32} (h0 : ¬ ((v 2) = 2)) (h1 : ((v 2) < 116)) (h2 : ((v 2) = 40)) (h3 : ((v 17) < 30)) (h4 : gsX_X6_refuse_1 NF v f = (1, v25, f26)) : gsX_X6_unit_8 NF v f = (1, v25, f26) := by
  simp only [gsX_X6_unit_8, stk_eq, if_neg h0, if_pos h1, if_pos h2, if_pos h3, h4, ite11, ite01, if_true, if_false]
theorem gsX_X6_unit_8_q6 {NF : Nat} {v : Nat → Int32} {f : Nat → Nat → Int32} {v25 : Nat → Int32} {f26 : Nat → Nat → Int32} (h0 : ¬ ((v 2) = 2)) (h1 : ((v 2) < 116)) (h2 : ((v 2) = 40)) (h3 : ((v 17) < 30)) (h4 : gsX_X6_refuse_1 NF v f = (0, v25, f26)) : gsX_X6_unit_8 NF v f = (0, v25, f26) := by
  simp only [gsX_X6_unit_8, stk_eq, if_neg h0, if_pos h1, if_pos h2, if_pos h3, h4, ite11, ite01, if_true, if_false]
theorem gsX_X6_unit_8_q7 {NF : Nat} {v : Nat → Int32} {f : Nat → Nat → Int32} {v30 : Nat → Int32} {f31 : Nat → Nat → Int32} (h0 : ¬ ((v 2) = 2)) (h1 : ((v 2) < 116)) (h2 : ((v 2) = 40)) (h3 : ¬ ((v 17) < 30)) (h4 : gsX_X6_refuse_1 NF v f = (1, v30, f31)) : gsX_X6_unit_8 NF v f = (1, v30, f31) := by
  simp only [gsX_X6_unit_8, stk_eq, if_neg h0, if_pos h1, if_pos h2, if_neg h3, h4, ite11, ite01, if_true, if_false]
theorem gsX_X6_unit_8_q8 {NF : Nat} {v : Nat → Int32} {f : Nat → Nat → Int32} {v30 : Nat → Int32} {f31 : Nat → Nat → Int32} (h0 : ¬ ((v 2) = 2)) (h1 : ((v 2) < 116)) (h2 : ((v 2) = 40)) (h3 : ¬ ((v 17) < 30)) (h4 : gsX_X6_refuse_1 NF v f = (0, v30, f31)) : gsX_X6_unit_8 NF v f = (0, v30, f31) := by
  simp only [gsX_X6_unit_8, stk_eq, if_neg h0, if_pos h1, if_pos h2, if_neg h3, h4, ite11, ite01, if_true, if_false]
theorem gsX_X6_unit_8_q9 {NF : Nat} {v : Nat → Int32} {f : Nat → Nat → Int32} {v37 : Nat → Int32} {f38 : Nat → Nat → Int32} (h0 : ¬ ((v 2) = 2)) (h1 : ¬ ((v 2) < 116)) (h2 : (121 < (v 2))) (h3 : ¬ ((v 2) = 40)) (h4 : gsX_X6_refuse_1 NF v f = (1, v37, f38)) : gsX_X6_unit_8 NF v f = (1, v37, f38) := by
  simp only [gsX_X6_unit_8, stk_eq, if_neg h0, if_neg h1, if_pos h2, if_neg h3, h4, ite11, ite01, if_true, if_false]
theorem gsX_X6_unit_8_q10 {NF : Nat} {v : Nat → Int32} {f : Nat → Nat → Int32} {v37 : Nat → Int32} {f38 : Nat → Nat → Int32} (h0 : ¬ ((v 2) = 2)) (h1 : ¬ ((v 2) < 116)) (h2 : (121 < (v 2))) (h3 : ¬ ((v 2) = 40)) (h4 : gsX_X6_refuse_1 NF v f = (0, v37, f38)) : gsX_X6_unit_8 NF v f = (0, v37, f38) := by
  simp only [gsX_X6_unit_8, stk_eq, if_neg h0, if_neg h1, if_pos h2, if_neg h3, h4, ite11, ite01, if_true, if_false]
theorem gsX_X6_unit_8_q11 {NF : Nat} {v : Nat → Int32} {f : Nat → Nat → Int32} {v43 : Nat → Int32} {f44 : Nat → Nat → Int32} (h0 : ¬ ((v 2) = 2)) (h1 : ¬ ((v 2) < 116)) (h2 : (121 < (v 2))) (h3 : ((v 2) = 40)) (h4 : ((v 17) < 30)) (h5 : gsX_X6_refuse_1 NF v f = (1, v43, f44)) : gsX_X6_unit_8 NF v f = (1, v43, f44) := by
  simp only [gsX_X6_unit_8, stk_eq, if_neg h0, if_neg h1, if_pos h2, if_pos h3, if_pos h4, h5, ite11, ite01, if_true, if_false]
theorem gsX_X6_unit_8_q12 {NF : Nat} {v : Nat → Int32} {f : Nat → Nat → Int32} {v43 : Nat → Int32} {f44 : Nat → Nat → Int32} (h0 : ¬ ((v 2) = 2)) (h1 : ¬ ((v 2) < 116)) (h2 : (121 < (v 2))) (h3 : ((v 2) = 40)) (h4 : ((v 17) < 30)) (h5 : gsX_X6_refuse_1 NF v f = (0, v43, f44)) : gsX_X6_unit_8 NF v f = (0, v43, f44) := by
  simp only [gsX_X6_unit_8, stk_eq, if_neg h0, if_neg h1, if_pos h2, if_pos h3, if_pos h4, h5, ite11, ite01, if_true, if_false]
theorem gsX_X6_unit_8_q13 {NF : Nat} {v : Nat → Int32} {f : Nat → Nat → Int32} {v48 : Nat → Int32} {f49 : Nat → Nat → Int32} (h0 : ¬ ((v 2) = 2)) (h1 : ¬ ((v 2) < 116)) (h2 : (121 < (v 2))) (h3 : ((v 2) = 40)) (h4 : ¬ ((v 17) < 30)) (h5 : gsX_X6_refuse_1 NF v f = (1, v48, f49)) : gsX_X6_unit_8 NF v f = (1, v48, f49) := by
  simp only [gsX_X6_unit_8, stk_eq, if_neg h0, if_neg h1, if_pos h2, if_pos h3, if_neg h4, h5, ite11, ite01, if_true, if_false]
theorem gsX_X6_unit_8_q14 {NF : Nat} {v : Nat → Int32} {f : Nat → Nat → Int32} {v48 : Nat → Int32} {f49 : Nat → Nat → Int32} (h0 : ¬ ((v 2) = 2)) (h1 : ¬ ((v 2) < 116)) (h2 : (121 < (v 2))) (h3 : ((v 2) = 40)) (h4 : ¬ ((v 17) < 30)) (h5 : gsX_X6_refuse_1 NF v f = (0, v48, f49)) : gsX_X6_unit_8 NF v f = (0, v48, f49) := by
  simp only [gsX_X6_unit_8, stk_eq, if_neg h0, if_neg h1, if_pos h2, if_pos h3, if_neg h4, h5, ite11, ite01, if_true, if_false]
theorem gsX_X6_unit_8_q15 {NF : Nat} {v : Nat → Int32} {f : Nat → Nat → Int32} {v53 : Nat → Int32} {f54 : Nat → Nat → Int32} {t55 : Int32} {v57 : Nat → Int32} {f58 : Nat → Nat → Int32} (h0 : ¬ ((v 2) = 2)) (h1 : ¬ ((v 2) < 116)) (h2 : ¬ (121 < (v 2))) (h3 : ((v 17) < 30)) (h4 : gsX_X4_add_1 NF (v 2) (v 5) v f = (v53, f54)) (h5 : t55 = (v53 17) + 1) (h6 : gsX_X9_advance_1 NF (upd v53 17 t55) f54 = (v57, f58)) : gsX_X6_unit_8 NF v f = (1, v57, f58) := by
  subst h5
  simp only [gsX_X6_unit_8, stk_eq, if_neg h0, if_neg h1, if_neg h2, if_pos h3, h4, h6]
theorem gsX_X6_unit_8_q16 {NF : Nat} {v : Nat → Int32} {f : Nat → Nat → Int32} {v61 : Nat → Int32} {f62 : Nat → Nat → Int32} (h0 : ¬ ((v 2) = 2)) (h1 : ¬ ((v 2) < 116)) (h2 : ¬ (121 < (v 2))) (h3 : ¬ ((v 17) < 30)) (h4 : gsX_X6_refuse_1 NF v f = (1, v61, f62)) : gsX_X6_unit_8 NF v f = (1, v61, f62) := by
  simp only [gsX_X6_unit_8, stk_eq, if_neg h0, if_neg h1, if_neg h2, if_neg h3, h4, ite11, ite01, if_true, if_false]
theorem gsX_X6_unit_8_q17 {NF : Nat} {v : Nat → Int32} {f : Nat → Nat → Int32} {v61 : Nat → Int32} {f62 : Nat → Nat → Int32} (h0 : ¬ ((v 2) = 2)) (h1 : ¬ ((v 2) < 116)) (h2 : ¬ (121 < (v 2))) (h3 : ¬ ((v 17) < 30)) (h4 : gsX_X6_refuse_1 NF v f = (0, v61, f62)) : gsX_X6_unit_8 NF v f = (0, v61, f62) := by
  simp only [gsX_X6_unit_8, stk_eq, if_neg h0, if_neg h1, if_neg h2, if_neg h3, h4, ite11, ite01, if_true, if_false]
def gsX_X6_expression_48 (NF : Nat) (v : Nat → Int32) (f : Nat → Nat → Int32) : Int32 × (Nat → Int32) × (Nat → Nat → Int32) :=
  match gsX_X6_unit_8 NF v f with
  | (r1, v3, f4) =>
    if r1 = 1 then
      (1, v3, f4)
    else
      (0, v3, f4)
theorem gsX_X6_expression_48_q0 {NF : Nat} {v : Nat → Int32} {f : Nat → Nat → Int32} {v3 : Nat → Int32} {f4 : Nat → Nat → Int32} (h0 : gsX_X6_unit_8 NF v f = (1, v3, f4)) : gsX_X6_expression_48 NF v f = (1, v3, f4) := by
  simp only [gsX_X6_expression_48, h0, ite11, ite01, if_true, if_false]
theorem gsX_X6_expression_48_q1 {NF : Nat} {v : Nat → Int32} {f : Nat → Nat → Int32} {v3 : Nat → Int32} {f4 : Nat → Nat → Int32} (h0 : gsX_X6_unit_8 NF v f = (0, v3, f4)) : gsX_X6_expression_48 NF v f = (0, v3, f4) := by
  simp only [gsX_X6_expression_48, h0, ite11, ite01, if_true, if_false]
def gsX_X6_joins_1 (NF : Nat) (p0 : Int32) (p1 : Int32) (v : Nat → Int32) (f : Nat → Nat → Int32) : Int32 :=
  if p0 = 0 then
    if p1 = 113 then
      1
    else
      0
  else
    if p0 = 1 then
      if p1 = 114 then
        1
      else
        0
    else
      if p0 = 2 then
        if p1 = 60 then
          1
        else
          if p1 = 62 then
            1
          else
            if p1 = 61 then
              1
            else
              0
      else
        if p0 = 3 then
          if p1 = 43 then
            1
          else
            if p1 = 45 then
              1
            else
              0
        else
          if p0 = 4 then
            if p1 = 42 then
              1
            else
              if p1 = 47 then
                1
              else
                if p1 = 37 then
                  1
                else
                  0
          else
            0
theorem gsX_X6_joins_1_q0 {NF : Nat} {p0 : Int32} {p1 : Int32} {v : Nat → Int32} {f : Nat → Nat → Int32} (h0 : (p0 = 0)) (h1 : ¬ (p1 = 113)) : gsX_X6_joins_1 NF p0 p1 v f = 0 := by
  simp only [gsX_X6_joins_1, if_pos h0, if_neg h1]
theorem gsX_X6_joins_1_q1 {NF : Nat} {p0 : Int32} {p1 : Int32} {v : Nat → Int32} {f : Nat → Nat → Int32} (h0 : (p0 = 0)) (h1 : (p1 = 113)) : gsX_X6_joins_1 NF p0 p1 v f = 1 := by
  simp only [gsX_X6_joins_1, if_pos h0, if_pos h1]
theorem gsX_X6_joins_1_q2 {NF : Nat} {p0 : Int32} {p1 : Int32} {v : Nat → Int32} {f : Nat → Nat → Int32} (h0 : ¬ (p0 = 0)) (h1 : (p0 = 1)) (h2 : ¬ (p1 = 114)) : gsX_X6_joins_1 NF p0 p1 v f = 0 := by
  simp only [gsX_X6_joins_1, if_neg h0, if_pos h1, if_neg h2]
theorem gsX_X6_joins_1_q3 {NF : Nat} {p0 : Int32} {p1 : Int32} {v : Nat → Int32} {f : Nat → Nat → Int32} (h0 : ¬ (p0 = 0)) (h1 : (p0 = 1)) (h2 : (p1 = 114)) : gsX_X6_joins_1 NF p0 p1 v f = 1 := by
  simp only [gsX_X6_joins_1, if_neg h0, if_pos h1, if_pos h2]
theorem gsX_X6_joins_1_q4 {NF : Nat} {p0 : Int32} {p1 : Int32} {v : Nat → Int32} {f : Nat → Nat → Int32} (h0 : ¬ (p0 = 0)) (h1 : ¬ (p0 = 1)) (h2 : (p0 = 2)) (h3 : (p1 = 60)) : gsX_X6_joins_1 NF p0 p1 v f = 1 := by
  simp only [gsX_X6_joins_1, if_neg h0, if_neg h1, if_pos h2, if_pos h3]
theorem gsX_X6_joins_1_q5 {NF : Nat} {p0 : Int32} {p1 : Int32} {v : Nat → Int32} {f : Nat → Nat → Int32} (h0 : ¬ (p0 = 0)) (h1 : ¬ (p0 = 1)) (h2 : (p0 = 2)) (h3 : ¬ (p1 = 60)) (h4 : (p1 = 62)) : gsX_X6_joins_1 NF p0 p1 v f = 1 := by
  simp only [gsX_X6_joins_1, if_neg h0, if_neg h1, if_pos h2, if_neg h3, if_pos h4]
theorem gsX_X6_joins_1_q6 {NF : Nat} {p0 : Int32} {p1 : Int32} {v : Nat → Int32} {f : Nat → Nat → Int32} (h0 : ¬ (p0 = 0)) (h1 : ¬ (p0 = 1)) (h2 : (p0 = 2)) (h3 : ¬ (p1 = 60)) (h4 : ¬ (p1 = 62)) (h5 : ¬ (p1 = 61)) : gsX_X6_joins_1 NF p0 p1 v f = 0 := by
  simp only [gsX_X6_joins_1, if_neg h0, if_neg h1, if_pos h2, if_neg h3, if_neg h4, if_neg h5]
theorem gsX_X6_joins_1_q7 {NF : Nat} {p0 : Int32} {p1 : Int32} {v : Nat → Int32} {f : Nat → Nat → Int32} (h0 : ¬ (p0 = 0)) (h1 : ¬ (p0 = 1)) (h2 : (p0 = 2)) (h3 : ¬ (p1 = 60)) (h4 : ¬ (p1 = 62)) (h5 : (p1 = 61)) : gsX_X6_joins_1 NF p0 p1 v f = 1 := by
  simp only [gsX_X6_joins_1, if_neg h0, if_neg h1, if_pos h2, if_neg h3, if_neg h4, if_pos h5]
theorem gsX_X6_joins_1_q8 {NF : Nat} {p0 : Int32} {p1 : Int32} {v : Nat → Int32} {f : Nat → Nat → Int32} (h0 : ¬ (p0 = 0)) (h1 : ¬ (p0 = 1)) (h2 : ¬ (p0 = 2)) (h3 : (p0 = 3)) (h4 : (p1 = 43)) : gsX_X6_joins_1 NF p0 p1 v f = 1 := by
  simp only [gsX_X6_joins_1, if_neg h0, if_neg h1, if_neg h2, if_pos h3, if_pos h4]
theorem gsX_X6_joins_1_q9 {NF : Nat} {p0 : Int32} {p1 : Int32} {v : Nat → Int32} {f : Nat → Nat → Int32} (h0 : ¬ (p0 = 0)) (h1 : ¬ (p0 = 1)) (h2 : ¬ (p0 = 2)) (h3 : (p0 = 3)) (h4 : ¬ (p1 = 43)) (h5 : ¬ (p1 = 45)) : gsX_X6_joins_1 NF p0 p1 v f = 0 := by
  simp only [gsX_X6_joins_1, if_neg h0, if_neg h1, if_neg h2, if_pos h3, if_neg h4, if_neg h5]
theorem gsX_X6_joins_1_q10 {NF : Nat} {p0 : Int32} {p1 : Int32} {v : Nat → Int32} {f : Nat → Nat → Int32} (h0 : ¬ (p0 = 0)) (h1 : ¬ (p0 = 1)) (h2 : ¬ (p0 = 2)) (h3 : (p0 = 3)) (h4 : ¬ (p1 = 43)) (h5 : (p1 = 45)) : gsX_X6_joins_1 NF p0 p1 v f = 1 := by
  simp only [gsX_X6_joins_1, if_neg h0, if_neg h1, if_neg h2, if_pos h3, if_neg h4, if_pos h5]
theorem gsX_X6_joins_1_q11 {NF : Nat} {p0 : Int32} {p1 : Int32} {v : Nat → Int32} {f : Nat → Nat → Int32} (h0 : ¬ (p0 = 0)) (h1 : ¬ (p0 = 1)) (h2 : ¬ (p0 = 2)) (h3 : ¬ (p0 = 3)) (h4 : (p0 = 4)) (h5 : (p1 = 42)) : gsX_X6_joins_1 NF p0 p1 v f = 1 := by
  simp only [gsX_X6_joins_1, if_neg h0, if_neg h1, if_neg h2, if_neg h3, if_pos h4, if_pos h5]
theorem gsX_X6_joins_1_q12 {NF : Nat} {p0 : Int32} {p1 : Int32} {v : Nat → Int32} {f : Nat → Nat → Int32} (h0 : ¬ (p0 = 0)) (h1 : ¬ (p0 = 1)) (h2 : ¬ (p0 = 2)) (h3 : ¬ (p0 = 3)) (h4 : (p0 = 4)) (h5 : ¬ (p1 = 42)) (h6 : (p1 = 47)) : gsX_X6_joins_1 NF p0 p1 v f = 1 := by
  simp only [gsX_X6_joins_1, if_neg h0, if_neg h1, if_neg h2, if_neg h3, if_pos h4, if_neg h5, if_pos h6]
theorem gsX_X6_joins_1_q13 {NF : Nat} {p0 : Int32} {p1 : Int32} {v : Nat → Int32} {f : Nat → Nat → Int32} (h0 : ¬ (p0 = 0)) (h1 : ¬ (p0 = 1)) (h2 : ¬ (p0 = 2)) (h3 : ¬ (p0 = 3)) (h4 : (p0 = 4)) (h5 : ¬ (p1 = 42)) (h6 : ¬ (p1 = 47)) (h7 : ¬ (p1 = 37)) : gsX_X6_joins_1 NF p0 p1 v f = 0 := by
  simp only [gsX_X6_joins_1, if_neg h0, if_neg h1, if_neg h2, if_neg h3, if_pos h4, if_neg h5, if_neg h6, if_neg h7]
theorem gsX_X6_joins_1_q14 {NF : Nat} {p0 : Int32} {p1 : Int32} {v : Nat → Int32} {f : Nat → Nat → Int32} (h0 : ¬ (p0 = 0)) (h1 : ¬ (p0 = 1)) (h2 : ¬ (p0 = 2)) (h3 : ¬ (p0 = 3)) (h4 : (p0 = 4)) (h5 : ¬ (p1 = 42)) (h6 : ¬ (p1 = 47)) (h7 : (p1 = 37)) : gsX_X6_joins_1 NF p0 p1 v f = 1 := by
  simp only [gsX_X6_joins_1, if_neg h0, if_neg h1, if_neg h2, if_neg h3, if_pos h4, if_neg h5, if_neg h6, if_pos h7]
theorem gsX_X6_joins_1_q15 {NF : Nat} {p0 : Int32} {p1 : Int32} {v : Nat → Int32} {f : Nat → Nat → Int32} (h0 : ¬ (p0 = 0)) (h1 : ¬ (p0 = 1)) (h2 : ¬ (p0 = 2)) (h3 : ¬ (p0 = 3)) (h4 : ¬ (p0 = 4)) : gsX_X6_joins_1 NF p0 p1 v f = 0 := by
  simp only [gsX_X6_joins_1, if_neg h0, if_neg h1, if_neg h2, if_neg h3, if_neg h4]
def gsX_X6_expression_47_L6 (NF : Nat) : Nat → (Int32) → (Nat → Int32) → (Nat → Nat → Int32) → Int32 × (Nat → Int32) × (Nat → Nat → Int32)
  | 0, _, _, _ => (0, (fun _ => 0), (fun _ _ => 0))
  | n6 + 1, l4_6, v6, f6 =>
    if 1600 ≤ l4_6 then
      (1, v6, f6)
    else
      if gsX_X6_joins_1 NF 4 (v6 2) v6 f6 = 1 then
        match gsX_X9_advance_1 NF v6 f6 with
        | (v12, f13) =>
          match gsX_X6_expression_48 NF v12 f13 with
          | (r14, v16, f17) =>
            if r14 = 1 then
              match gsX_X4_add_1 NF (v6 2) 0 v16 f17 with
              | (v20, f21) =>
                let t22 : Int32 := l4_6 + 1
                gsX_X6_expression_47_L6 NF n6 t22 v20 f21
            else
              (0, v16, f17)
      else
        (1, v6, f6)
def gsX_X6_expression_47 (NF : Nat) (v : Nat → Int32) (f : Nat → Nat → Int32) : Int32 × (Nat → Int32) × (Nat → Nat → Int32) :=
  match gsX_X6_expression_48 NF v f with
  | (r1, v3, f4) =>
    if r1 = 1 then
      gsX_X6_expression_47_L6 NF (4294967296 + NF) 0 v3 f4
    else
      (0, v3, f4)
theorem gsX_X6_expression_47_q4 {NF : Nat} {v : Nat → Int32} {f : Nat → Nat → Int32} {v3 : Nat → Int32} {f4 : Nat → Nat → Int32} (h0 : gsX_X6_expression_48 NF v f = (1, v3, f4)) : gsX_X6_expression_47 NF v f = gsX_X6_expression_47_L6 NF (4294967296 + NF) 0 v3 f4 := by
  simp only [gsX_X6_expression_47, h0, ite11, ite01, if_true, if_false]
theorem gsX_X6_expression_47_q5 {NF : Nat} {v : Nat → Int32} {f : Nat → Nat → Int32} {v3 : Nat → Int32} {f4 : Nat → Nat → Int32} (h0 : gsX_X6_expression_48 NF v f = (0, v3, f4)) : gsX_X6_expression_47 NF v f = (0, v3, f4) := by
  simp only [gsX_X6_expression_47, h0, ite11, ite01, if_true, if_false]
theorem gsX_X6_expression_47_q0 {NF : Nat} {n6 : Nat} {l4_6 : Int32} {v6 : Nat → Int32} {f6 : Nat → Nat → Int32} (h0 : (1600 ≤ l4_6)) : gsX_X6_expression_47_L6 NF (n6 + 1) l4_6 v6 f6 = (1, v6, f6) := by
  simp only [gsX_X6_expression_47_L6, if_pos h0]
theorem gsX_X6_expression_47_q1 {NF : Nat} {n6 : Nat} {l4_6 : Int32} {v6 : Nat → Int32} {f6 : Nat → Nat → Int32} {v12 : Nat → Int32} {f13 : Nat → Nat → Int32} {v16 : Nat → Int32} {f17 : Nat → Nat → Int32} {v20 : Nat → Int32} {f21 : Nat → Nat → Int32} {t22 : Int32} (h0 : ¬ (1600 ≤ l4_6)) (h1 : gsX_X6_joins_1 NF 4 (v6 2) v6 f6 = 1) (h2 : gsX_X9_advance_1 NF v6 f6 = (v12, f13)) (h3 : gsX_X6_expression_48 NF v12 f13 = (1, v16, f17)) (h5 : gsX_X4_add_1 NF (v6 2) 0 v16 f17 = (v20, f21)) (h6 : t22 = l4_6 + 1) : gsX_X6_expression_47_L6 NF (n6 + 1) l4_6 v6 f6 = gsX_X6_expression_47_L6 NF n6 t22 v20 f21 := by
  subst h6
  simp only [gsX_X6_expression_47_L6, if_neg h0, h1, h2, h3, h5, ite11, ite01, if_true, if_false]
theorem gsX_X6_expression_47_q2 {NF : Nat} {n6 : Nat} {l4_6 : Int32} {v6 : Nat → Int32} {f6 : Nat → Nat → Int32} {v12 : Nat → Int32} {f13 : Nat → Nat → Int32} {v16 : Nat → Int32} {f17 : Nat → Nat → Int32} (h0 : ¬ (1600 ≤ l4_6)) (h1 : gsX_X6_joins_1 NF 4 (v6 2) v6 f6 = 1) (h2 : gsX_X9_advance_1 NF v6 f6 = (v12, f13)) (h3 : gsX_X6_expression_48 NF v12 f13 = (0, v16, f17)) : gsX_X6_expression_47_L6 NF (n6 + 1) l4_6 v6 f6 = (0, v16, f17) := by
  simp only [gsX_X6_expression_47_L6, if_neg h0, h1, h2, h3, ite11, ite01, if_true, if_false]
theorem gsX_X6_expression_47_q3 {NF : Nat} {n6 : Nat} {l4_6 : Int32} {v6 : Nat → Int32} {f6 : Nat → Nat → Int32} (h0 : ¬ (1600 ≤ l4_6)) (h1 : gsX_X6_joins_1 NF 4 (v6 2) v6 f6 = 0) : gsX_X6_expression_47_L6 NF (n6 + 1) l4_6 v6 f6 = (1, v6, f6) := by
  simp only [gsX_X6_expression_47_L6, if_neg h0, h1, ite11, ite01, if_true, if_false]
def gsX_X6_expression_46_L6 (NF : Nat) : Nat → (Int32) → (Nat → Int32) → (Nat → Nat → Int32) → Int32 × (Nat → Int32) × (Nat → Nat → Int32)
  | 0, _, _, _ => (0, (fun _ => 0), (fun _ _ => 0))
  | n6 + 1, l4_6, v6, f6 =>
    if 1600 ≤ l4_6 then
      (1, v6, f6)
    else
      if gsX_X6_joins_1 NF 3 (v6 2) v6 f6 = 1 then
        match gsX_X9_advance_1 NF v6 f6 with
        | (v12, f13) =>
          match gsX_X6_expression_47 NF v12 f13 with
          | (r14, v16, f17) =>
            if r14 = 1 then
              match gsX_X4_add_1 NF (v6 2) 0 v16 f17 with
              | (v20, f21) =>
                let t22 : Int32 := l4_6 + 1
                gsX_X6_expression_46_L6 NF n6 t22 v20 f21
            else
              (0, v16, f17)
      else
        (1, v6, f6)
def gsX_X6_expression_46 (NF : Nat) (v : Nat → Int32) (f : Nat → Nat → Int32) : Int32 × (Nat → Int32) × (Nat → Nat → Int32) :=
  match gsX_X6_expression_47 NF v f with
  | (r1, v3, f4) =>
    if r1 = 1 then
      gsX_X6_expression_46_L6 NF (4294967296 + NF) 0 v3 f4
    else
      (0, v3, f4)
theorem gsX_X6_expression_46_q4 {NF : Nat} {v : Nat → Int32} {f : Nat → Nat → Int32} {v3 : Nat → Int32} {f4 : Nat → Nat → Int32} (h0 : gsX_X6_expression_47 NF v f = (1, v3, f4)) : gsX_X6_expression_46 NF v f = gsX_X6_expression_46_L6 NF (4294967296 + NF) 0 v3 f4 := by
  simp only [gsX_X6_expression_46, h0, ite11, ite01, if_true, if_false]
theorem gsX_X6_expression_46_q5 {NF : Nat} {v : Nat → Int32} {f : Nat → Nat → Int32} {v3 : Nat → Int32} {f4 : Nat → Nat → Int32} (h0 : gsX_X6_expression_47 NF v f = (0, v3, f4)) : gsX_X6_expression_46 NF v f = (0, v3, f4) := by
  simp only [gsX_X6_expression_46, h0, ite11, ite01, if_true, if_false]
theorem gsX_X6_expression_46_q0 {NF : Nat} {n6 : Nat} {l4_6 : Int32} {v6 : Nat → Int32} {f6 : Nat → Nat → Int32} (h0 : (1600 ≤ l4_6)) : gsX_X6_expression_46_L6 NF (n6 + 1) l4_6 v6 f6 = (1, v6, f6) := by
  simp only [gsX_X6_expression_46_L6, if_pos h0]
theorem gsX_X6_expression_46_q1 {NF : Nat} {n6 : Nat} {l4_6 : Int32} {v6 : Nat → Int32} {f6 : Nat → Nat → Int32} {v12 : Nat → Int32} {f13 : Nat → Nat → Int32} {v16 : Nat → Int32} {f17 : Nat → Nat → Int32} {v20 : Nat → Int32} {f21 : Nat → Nat → Int32} {t22 : Int32} (h0 : ¬ (1600 ≤ l4_6)) (h1 : gsX_X6_joins_1 NF 3 (v6 2) v6 f6 = 1) (h2 : gsX_X9_advance_1 NF v6 f6 = (v12, f13)) (h3 : gsX_X6_expression_47 NF v12 f13 = (1, v16, f17)) (h5 : gsX_X4_add_1 NF (v6 2) 0 v16 f17 = (v20, f21)) (h6 : t22 = l4_6 + 1) : gsX_X6_expression_46_L6 NF (n6 + 1) l4_6 v6 f6 = gsX_X6_expression_46_L6 NF n6 t22 v20 f21 := by
  subst h6
  simp only [gsX_X6_expression_46_L6, if_neg h0, h1, h2, h3, h5, ite11, ite01, if_true, if_false]
theorem gsX_X6_expression_46_q2 {NF : Nat} {n6 : Nat} {l4_6 : Int32} {v6 : Nat → Int32} {f6 : Nat → Nat → Int32} {v12 : Nat → Int32} {f13 : Nat → Nat → Int32} {v16 : Nat → Int32} {f17 : Nat → Nat → Int32} (h0 : ¬ (1600 ≤ l4_6)) (h1 : gsX_X6_joins_1 NF 3 (v6 2) v6 f6 = 1) (h2 : gsX_X9_advance_1 NF v6 f6 = (v12, f13)) (h3 : gsX_X6_expression_47 NF v12 f13 = (0, v16, f17)) : gsX_X6_expression_46_L6 NF (n6 + 1) l4_6 v6 f6 = (0, v16, f17) := by
  simp only [gsX_X6_expression_46_L6, if_neg h0, h1, h2, h3, ite11, ite01, if_true, if_false]
theorem gsX_X6_expression_46_q3 {NF : Nat} {n6 : Nat} {l4_6 : Int32} {v6 : Nat → Int32} {f6 : Nat → Nat → Int32} (h0 : ¬ (1600 ≤ l4_6)) (h1 : gsX_X6_joins_1 NF 3 (v6 2) v6 f6 = 0) : gsX_X6_expression_46_L6 NF (n6 + 1) l4_6 v6 f6 = (1, v6, f6) := by
  simp only [gsX_X6_expression_46_L6, if_neg h0, h1, ite11, ite01, if_true, if_false]
def gsX_X6_negation_1 (NF : Nat) (v : Nat → Int32) (f : Nat → Nat → Int32) : Int32 × (Nat → Int32) × (Nat → Nat → Int32) :=
  match gsX_X6_refuse_1 NF v f with
  | (r1, v3, f4) =>
    if r1 = 1 then
      (1, v3, f4)
    else
      (0, v3, f4)
theorem gsX_X6_negation_1_q0 {NF : Nat} {v : Nat → Int32} {f : Nat → Nat → Int32} {v3 : Nat → Int32} {f4 : Nat → Nat → Int32} (h0 : gsX_X6_refuse_1 NF v f = (1, v3, f4)) : gsX_X6_negation_1 NF v f = (1, v3, f4) := by
  simp only [gsX_X6_negation_1, stk_eq, h0, ite11, ite01, if_true, if_false]
theorem gsX_X6_negation_1_q1 {NF : Nat} {v : Nat → Int32} {f : Nat → Nat → Int32} {v3 : Nat → Int32} {f4 : Nat → Nat → Int32} (h0 : gsX_X6_refuse_1 NF v f = (0, v3, f4)) : gsX_X6_negation_1 NF v f = (0, v3, f4) := by
  simp only [gsX_X6_negation_1, stk_eq, h0, ite11, ite01, if_true, if_false]
def gsX_X6_expression_45_L7 (NF : Nat) : Nat → (Int32) → (Nat → Int32) → (Nat → Nat → Int32) → Int32 × (Nat → Int32) × (Nat → Nat → Int32)
  | 0, _, _, _ => (0, (fun _ => 0), (fun _ _ => 0))
  | n7 + 1, l4_7, v7, f7 =>
    if 1 ≤ l4_7 then
      (1, v7, f7)
    else
      if gsX_X6_joins_1 NF 2 (v7 2) v7 f7 = 1 then
        match gsX_X9_advance_1 NF v7 f7 with
        | (v13, f14) =>
          match gsX_X6_expression_46 NF v13 f14 with
          | (r15, v17, f18) =>
            if r15 = 1 then
              match gsX_X4_add_1 NF (v7 2) 0 v17 f18 with
              | (v21, f22) =>
                let t23 : Int32 := l4_7 + 1
                gsX_X6_expression_45_L7 NF n7 t23 v21 f22
            else
              (0, v17, f18)
      else
        (1, v7, f7)
def gsX_X6_expression_45 (NF : Nat) (v : Nat → Int32) (f : Nat → Nat → Int32) : Int32 × (Nat → Int32) × (Nat → Nat → Int32) :=
  if (v 2) = 115 then
    match gsX_X6_negation_1 NF v f with
    | (r26, v28, f29) =>
      if r26 = 1 then
        (1, v28, f29)
      else
        (0, v28, f29)
  else
    match gsX_X6_expression_46 NF v f with
    | (r2, v4, f5) =>
      if r2 = 1 then
        gsX_X6_expression_45_L7 NF (4294967296 + NF) 0 v4 f5
      else
        (0, v4, f5)
theorem gsX_X6_expression_45_q4 {NF : Nat} {v : Nat → Int32} {f : Nat → Nat → Int32} {v4 : Nat → Int32} {f5 : Nat → Nat → Int32} (h0 : ¬ ((v 2) = 115)) (h1 : gsX_X6_expression_46 NF v f = (1, v4, f5)) : gsX_X6_expression_45 NF v f = gsX_X6_expression_45_L7 NF (4294967296 + NF) 0 v4 f5 := by
  simp only [gsX_X6_expression_45, if_neg h0, h1, ite11, ite01, if_true, if_false]
theorem gsX_X6_expression_45_q5 {NF : Nat} {v : Nat → Int32} {f : Nat → Nat → Int32} {v4 : Nat → Int32} {f5 : Nat → Nat → Int32} (h0 : ¬ ((v 2) = 115)) (h1 : gsX_X6_expression_46 NF v f = (0, v4, f5)) : gsX_X6_expression_45 NF v f = (0, v4, f5) := by
  simp only [gsX_X6_expression_45, if_neg h0, h1, ite11, ite01, if_true, if_false]
theorem gsX_X6_expression_45_q6 {NF : Nat} {v : Nat → Int32} {f : Nat → Nat → Int32} {v28 : Nat → Int32} {f29 : Nat → Nat → Int32} (h0 : ((v 2) = 115)) (h1 : gsX_X6_negation_1 NF v f = (1, v28, f29)) : gsX_X6_expression_45 NF v f = (1, v28, f29) := by
  simp only [gsX_X6_expression_45, if_pos h0, h1, ite11, ite01, if_true, if_false]
theorem gsX_X6_expression_45_q7 {NF : Nat} {v : Nat → Int32} {f : Nat → Nat → Int32} {v28 : Nat → Int32} {f29 : Nat → Nat → Int32} (h0 : ((v 2) = 115)) (h1 : gsX_X6_negation_1 NF v f = (0, v28, f29)) : gsX_X6_expression_45 NF v f = (0, v28, f29) := by
  simp only [gsX_X6_expression_45, if_pos h0, h1, ite11, ite01, if_true, if_false]
theorem gsX_X6_expression_45_q0 {NF : Nat} {n7 : Nat} {l4_7 : Int32} {v7 : Nat → Int32} {f7 : Nat → Nat → Int32} (h0 : (1 ≤ l4_7)) : gsX_X6_expression_45_L7 NF (n7 + 1) l4_7 v7 f7 = (1, v7, f7) := by
  simp only [gsX_X6_expression_45_L7, if_pos h0]
theorem gsX_X6_expression_45_q1 {NF : Nat} {n7 : Nat} {l4_7 : Int32} {v7 : Nat → Int32} {f7 : Nat → Nat → Int32} {v13 : Nat → Int32} {f14 : Nat → Nat → Int32} {v17 : Nat → Int32} {f18 : Nat → Nat → Int32} {v21 : Nat → Int32} {f22 : Nat → Nat → Int32} {t23 : Int32} (h0 : ¬ (1 ≤ l4_7)) (h1 : gsX_X6_joins_1 NF 2 (v7 2) v7 f7 = 1) (h2 : gsX_X9_advance_1 NF v7 f7 = (v13, f14)) (h3 : gsX_X6_expression_46 NF v13 f14 = (1, v17, f18)) (h5 : gsX_X4_add_1 NF (v7 2) 0 v17 f18 = (v21, f22)) (h6 : t23 = l4_7 + 1) : gsX_X6_expression_45_L7 NF (n7 + 1) l4_7 v7 f7 = gsX_X6_expression_45_L7 NF n7 t23 v21 f22 := by
  subst h6
  simp only [gsX_X6_expression_45_L7, if_neg h0, h1, h2, h3, h5, ite11, ite01, if_true, if_false]
theorem gsX_X6_expression_45_q2 {NF : Nat} {n7 : Nat} {l4_7 : Int32} {v7 : Nat → Int32} {f7 : Nat → Nat → Int32} {v13 : Nat → Int32} {f14 : Nat → Nat → Int32} {v17 : Nat → Int32} {f18 : Nat → Nat → Int32} (h0 : ¬ (1 ≤ l4_7)) (h1 : gsX_X6_joins_1 NF 2 (v7 2) v7 f7 = 1) (h2 : gsX_X9_advance_1 NF v7 f7 = (v13, f14)) (h3 : gsX_X6_expression_46 NF v13 f14 = (0, v17, f18)) : gsX_X6_expression_45_L7 NF (n7 + 1) l4_7 v7 f7 = (0, v17, f18) := by
  simp only [gsX_X6_expression_45_L7, if_neg h0, h1, h2, h3, ite11, ite01, if_true, if_false]
theorem gsX_X6_expression_45_q3 {NF : Nat} {n7 : Nat} {l4_7 : Int32} {v7 : Nat → Int32} {f7 : Nat → Nat → Int32} (h0 : ¬ (1 ≤ l4_7)) (h1 : gsX_X6_joins_1 NF 2 (v7 2) v7 f7 = 0) : gsX_X6_expression_45_L7 NF (n7 + 1) l4_7 v7 f7 = (1, v7, f7) := by
  simp only [gsX_X6_expression_45_L7, if_neg h0, h1, ite11, ite01, if_true, if_false]
def gsX_X6_expression_44_L6 (NF : Nat) : Nat → (Int32) → (Nat → Int32) → (Nat → Nat → Int32) → Int32 × (Nat → Int32) × (Nat → Nat → Int32)
  | 0, _, _, _ => (0, (fun _ => 0), (fun _ _ => 0))
  | n6 + 1, l4_6, v6, f6 =>
    if 1600 ≤ l4_6 then
      (1, v6, f6)
    else
      if gsX_X6_joins_1 NF 1 (v6 2) v6 f6 = 1 then
        match gsX_X9_advance_1 NF v6 f6 with
        | (v12, f13) =>
          match gsX_X6_expression_45 NF v12 f13 with
          | (r14, v16, f17) =>
            if r14 = 1 then
              match gsX_X4_add_1 NF (v6 2) 0 v16 f17 with
              | (v20, f21) =>
                let t22 : Int32 := l4_6 + 1
                gsX_X6_expression_44_L6 NF n6 t22 v20 f21
            else
              (0, v16, f17)
      else
        (1, v6, f6)
def gsX_X6_expression_44 (NF : Nat) (v : Nat → Int32) (f : Nat → Nat → Int32) : Int32 × (Nat → Int32) × (Nat → Nat → Int32) :=
  match gsX_X6_expression_45 NF v f with
  | (r1, v3, f4) =>
    if r1 = 1 then
      gsX_X6_expression_44_L6 NF (4294967296 + NF) 0 v3 f4
    else
      (0, v3, f4)
theorem gsX_X6_expression_44_q4 {NF : Nat} {v : Nat → Int32} {f : Nat → Nat → Int32} {v3 : Nat → Int32} {f4 : Nat → Nat → Int32} (h0 : gsX_X6_expression_45 NF v f = (1, v3, f4)) : gsX_X6_expression_44 NF v f = gsX_X6_expression_44_L6 NF (4294967296 + NF) 0 v3 f4 := by
  simp only [gsX_X6_expression_44, h0, ite11, ite01, if_true, if_false]
theorem gsX_X6_expression_44_q5 {NF : Nat} {v : Nat → Int32} {f : Nat → Nat → Int32} {v3 : Nat → Int32} {f4 : Nat → Nat → Int32} (h0 : gsX_X6_expression_45 NF v f = (0, v3, f4)) : gsX_X6_expression_44 NF v f = (0, v3, f4) := by
  simp only [gsX_X6_expression_44, h0, ite11, ite01, if_true, if_false]
theorem gsX_X6_expression_44_q0 {NF : Nat} {n6 : Nat} {l4_6 : Int32} {v6 : Nat → Int32} {f6 : Nat → Nat → Int32} (h0 : (1600 ≤ l4_6)) : gsX_X6_expression_44_L6 NF (n6 + 1) l4_6 v6 f6 = (1, v6, f6) := by
  simp only [gsX_X6_expression_44_L6, if_pos h0]
theorem gsX_X6_expression_44_q1 {NF : Nat} {n6 : Nat} {l4_6 : Int32} {v6 : Nat → Int32} {f6 : Nat → Nat → Int32} {v12 : Nat → Int32} {f13 : Nat → Nat → Int32} {v16 : Nat → Int32} {f17 : Nat → Nat → Int32} {v20 : Nat → Int32} {f21 : Nat → Nat → Int32} {t22 : Int32} (h0 : ¬ (1600 ≤ l4_6)) (h1 : gsX_X6_joins_1 NF 1 (v6 2) v6 f6 = 1) (h2 : gsX_X9_advance_1 NF v6 f6 = (v12, f13)) (h3 : gsX_X6_expression_45 NF v12 f13 = (1, v16, f17)) (h5 : gsX_X4_add_1 NF (v6 2) 0 v16 f17 = (v20, f21)) (h6 : t22 = l4_6 + 1) : gsX_X6_expression_44_L6 NF (n6 + 1) l4_6 v6 f6 = gsX_X6_expression_44_L6 NF n6 t22 v20 f21 := by
  subst h6
  simp only [gsX_X6_expression_44_L6, if_neg h0, h1, h2, h3, h5, ite11, ite01, if_true, if_false]
theorem gsX_X6_expression_44_q2 {NF : Nat} {n6 : Nat} {l4_6 : Int32} {v6 : Nat → Int32} {f6 : Nat → Nat → Int32} {v12 : Nat → Int32} {f13 : Nat → Nat → Int32} {v16 : Nat → Int32} {f17 : Nat → Nat → Int32} (h0 : ¬ (1600 ≤ l4_6)) (h1 : gsX_X6_joins_1 NF 1 (v6 2) v6 f6 = 1) (h2 : gsX_X9_advance_1 NF v6 f6 = (v12, f13)) (h3 : gsX_X6_expression_45 NF v12 f13 = (0, v16, f17)) : gsX_X6_expression_44_L6 NF (n6 + 1) l4_6 v6 f6 = (0, v16, f17) := by
  simp only [gsX_X6_expression_44_L6, if_neg h0, h1, h2, h3, ite11, ite01, if_true, if_false]
theorem gsX_X6_expression_44_q3 {NF : Nat} {n6 : Nat} {l4_6 : Int32} {v6 : Nat → Int32} {f6 : Nat → Nat → Int32} (h0 : ¬ (1600 ≤ l4_6)) (h1 : gsX_X6_joins_1 NF 1 (v6 2) v6 f6 = 0) : gsX_X6_expression_44_L6 NF (n6 + 1) l4_6 v6 f6 = (1, v6, f6) := by
  simp only [gsX_X6_expression_44_L6, if_neg h0, h1, ite11, ite01, if_true, if_false]
def gsX_X6_expression_43_L6 (NF : Nat) : Nat → (Int32) → (Nat → Int32) → (Nat → Nat → Int32) → Int32 × (Nat → Int32) × (Nat → Nat → Int32)
  | 0, _, _, _ => (0, (fun _ => 0), (fun _ _ => 0))
  | n6 + 1, l4_6, v6, f6 =>
    if 1600 ≤ l4_6 then
      (1, v6, f6)
    else
      if gsX_X6_joins_1 NF 0 (v6 2) v6 f6 = 1 then
        match gsX_X9_advance_1 NF v6 f6 with
        | (v12, f13) =>
          match gsX_X6_expression_44 NF v12 f13 with
          | (r14, v16, f17) =>
            if r14 = 1 then
              match gsX_X4_add_1 NF (v6 2) 0 v16 f17 with
              | (v20, f21) =>
                let t22 : Int32 := l4_6 + 1
                gsX_X6_expression_43_L6 NF n6 t22 v20 f21
            else
              (0, v16, f17)
      else
        (1, v6, f6)
def gsX_X6_expression_43 (NF : Nat) (v : Nat → Int32) (f : Nat → Nat → Int32) : Int32 × (Nat → Int32) × (Nat → Nat → Int32) :=
  match gsX_X6_expression_44 NF v f with
  | (r1, v3, f4) =>
    if r1 = 1 then
      gsX_X6_expression_43_L6 NF (4294967296 + NF) 0 v3 f4
    else
      (0, v3, f4)
theorem gsX_X6_expression_43_q4 {NF : Nat} {v : Nat → Int32} {f : Nat → Nat → Int32} {v3 : Nat → Int32} {f4 : Nat → Nat → Int32} (h0 : gsX_X6_expression_44 NF v f = (1, v3, f4)) : gsX_X6_expression_43 NF v f = gsX_X6_expression_43_L6 NF (4294967296 + NF) 0 v3 f4 := by
  simp only [gsX_X6_expression_43, h0, ite11, ite01, if_true, if_false]
theorem gsX_X6_expression_43_q5 {NF : Nat} {v : Nat → Int32} {f : Nat → Nat → Int32} {v3 : Nat → Int32} {f4 : Nat → Nat → Int32} (h0 : gsX_X6_expression_44 NF v f = (0, v3, f4)) : gsX_X6_expression_43 NF v f = (0, v3, f4) := by
  simp only [gsX_X6_expression_43, h0, ite11, ite01, if_true, if_false]
theorem gsX_X6_expression_43_q0 {NF : Nat} {n6 : Nat} {l4_6 : Int32} {v6 : Nat → Int32} {f6 : Nat → Nat → Int32} (h0 : (1600 ≤ l4_6)) : gsX_X6_expression_43_L6 NF (n6 + 1) l4_6 v6 f6 = (1, v6, f6) := by
  simp only [gsX_X6_expression_43_L6, if_pos h0]
theorem gsX_X6_expression_43_q1 {NF : Nat} {n6 : Nat} {l4_6 : Int32} {v6 : Nat → Int32} {f6 : Nat → Nat → Int32} {v12 : Nat → Int32} {f13 : Nat → Nat → Int32} {v16 : Nat → Int32} {f17 : Nat → Nat → Int32} {v20 : Nat → Int32} {f21 : Nat → Nat → Int32} {t22 : Int32} (h0 : ¬ (1600 ≤ l4_6)) (h1 : gsX_X6_joins_1 NF 0 (v6 2) v6 f6 = 1) (h2 : gsX_X9_advance_1 NF v6 f6 = (v12, f13)) (h3 : gsX_X6_expression_44 NF v12 f13 = (1, v16, f17)) (h5 : gsX_X4_add_1 NF (v6 2) 0 v16 f17 = (v20, f21)) (h6 : t22 = l4_6 + 1) : gsX_X6_expression_43_L6 NF (n6 + 1) l4_6 v6 f6 = gsX_X6_expression_43_L6 NF n6 t22 v20 f21 := by
  subst h6
  simp only [gsX_X6_expression_43_L6, if_neg h0, h1, h2, h3, h5, ite11, ite01, if_true, if_false]
theorem gsX_X6_expression_43_q2 {NF : Nat} {n6 : Nat} {l4_6 : Int32} {v6 : Nat → Int32} {f6 : Nat → Nat → Int32} {v12 : Nat → Int32} {f13 : Nat → Nat → Int32} {v16 : Nat → Int32} {f17 : Nat → Nat → Int32} (h0 : ¬ (1600 ≤ l4_6)) (h1 : gsX_X6_joins_1 NF 0 (v6 2) v6 f6 = 1) (h2 : gsX_X9_advance_1 NF v6 f6 = (v12, f13)) (h3 : gsX_X6_expression_44 NF v12 f13 = (0, v16, f17)) : gsX_X6_expression_43_L6 NF (n6 + 1) l4_6 v6 f6 = (0, v16, f17) := by
  simp only [gsX_X6_expression_43_L6, if_neg h0, h1, h2, h3, ite11, ite01, if_true, if_false]
theorem gsX_X6_expression_43_q3 {NF : Nat} {n6 : Nat} {l4_6 : Int32} {v6 : Nat → Int32} {f6 : Nat → Nat → Int32} (h0 : ¬ (1600 ≤ l4_6)) (h1 : gsX_X6_joins_1 NF 0 (v6 2) v6 f6 = 0) : gsX_X6_expression_43_L6 NF (n6 + 1) l4_6 v6 f6 = (1, v6, f6) := by
  simp only [gsX_X6_expression_43_L6, if_neg h0, h1, ite11, ite01, if_true, if_false]
def gsX_X6_unit_7 (NF : Nat) (v : Nat → Int32) (f : Nat → Nat → Int32) : Int32 × (Nat → Int32) × (Nat → Nat → Int32) :=
  if (v 2) = 2 then
    if (v 17) < 30 then
      match gsX_X4_add_1 NF (v 2) (v 5) v f with
      | (v4, f5) =>
        let t6 : Int32 := (v4 17) + 1
        match gsX_X9_advance_1 NF (upd v4 17 t6) f5 with
        | (v8, f9) =>
          (1, v8, f9)
    else
      match gsX_X6_refuse_1 NF v f with
      | (r10, v12, f13) =>
        if r10 = 1 then
          (1, v12, f13)
        else
          (0, v12, f13)
  else
    if (v 2) < 116 then
      if (v 2) = 40 then
        if (v 17) < 30 then
          let t23 : Int32 := (v 17) + 1
          match gsX_X9_advance_1 NF (upd v 17 t23) f with
          | (v26, f27) =>
            match stk NF (gsX_X6_expression_43 NF v26 f27) with
            | (r28, v30, f31) =>
              if r28 = 1 then
                match gsX_X6_taken_1 NF 41 v30 f31 with
                | (r33, v35, f36) =>
                  if r33 = 1 then
                    (1, v35, f36)
                  else
                    (0, v35, f36)
              else
                (0, v30, f31)
        else
          match gsX_X6_refuse_1 NF v f with
          | (r38, v40, f41) =>
            if r38 = 1 then
              (1, v40, f41)
            else
              (0, v40, f41)
      else
        match gsX_X6_refuse_1 NF v f with
        | (r17, v19, f20) =>
          if r17 = 1 then
            (1, v19, f20)
          else
            (0, v19, f20)
    else
      if 121 < (v 2) then
        if (v 2) = 40 then
          if (v 17) < 30 then
            let t51 : Int32 := (v 17) + 1
            match gsX_X9_advance_1 NF (upd v 17 t51) f with
            | (v54, f55) =>
              match stk NF (gsX_X6_expression_43 NF v54 f55) with
              | (r56, v58, f59) =>
                if r56 = 1 then
                  match gsX_X6_taken_1 NF 41 v58 f59 with
                  | (r61, v63, f64) =>
                    if r61 = 1 then
                      (1, v63, f64)
                    else
                      (0, v63, f64)
                else
                  (0, v58, f59)
          else
            match gsX_X6_refuse_1 NF v f with
            | (r66, v68, f69) =>
              if r66 = 1 then
                (1, v68, f69)
              else
                (0, v68, f69)
        else
          match gsX_X6_refuse_1 NF v f with
          | (r45, v47, f48) =>
            if r45 = 1 then
              (1, v47, f48)
            else
              (0, v47, f48)
      else
        if (v 17) < 30 then
          match gsX_X4_add_1 NF (v 2) (v 5) v f with
          | (v73, f74) =>
            let t75 : Int32 := (v73 17) + 1
            match gsX_X9_advance_1 NF (upd v73 17 t75) f74 with
            | (v77, f78) =>
              (1, v77, f78)
        else
          match gsX_X6_refuse_1 NF v f with
          | (r79, v81, f82) =>
            if r79 = 1 then
              (1, v81, f82)
            else
              (0, v81, f82)
theorem gsX_X6_unit_7_q0 {NF : Nat} {v : Nat → Int32} {f : Nat → Nat → Int32} {v4 : Nat → Int32} {f5 : Nat → Nat → Int32} {t6 : Int32} {v8 : Nat → Int32} {f9 : Nat → Nat → Int32} (h0 : ((v 2) = 2)) (h1 : ((v 17) < 30)) (h2 : gsX_X4_add_1 NF (v 2) (v 5) v f = (v4, f5)) (h3 : t6 = (v4 17) + 1) (h4 : gsX_X9_advance_1 NF (upd v4 17 t6) f5 = (v8, f9)) : gsX_X6_unit_7 NF v f = (1, v8, f9) := by
  subst h3
  simp only [gsX_X6_unit_7, stk_eq, if_pos h0, if_pos h1, h2, h4]
theorem gsX_X6_unit_7_q1 {NF : Nat} {v : Nat → Int32} {f : Nat → Nat → Int32} {v12 : Nat → Int32} {f13 : Nat → Nat → Int32} (h0 : ((v 2) = 2)) (h1 : ¬ ((v 17) < 30)) (h2 : gsX_X6_refuse_1 NF v f = (1, v12, f13)) : gsX_X6_unit_7 NF v f = (1, v12, f13) := by
  simp only [gsX_X6_unit_7, stk_eq, if_pos h0, if_neg h1, h2, ite11, ite01, if_true, if_false]
theorem gsX_X6_unit_7_q2 {NF : Nat} {v : Nat → Int32} {f : Nat → Nat → Int32} {v12 : Nat → Int32} {f13 : Nat → Nat → Int32} (h0 : ((v 2) = 2)) (h1 : ¬ ((v 17) < 30)) (h2 : gsX_X6_refuse_1 NF v f = (0, v12, f13)) : gsX_X6_unit_7 NF v f = (0, v12, f13) := by
  simp only [gsX_X6_unit_7, stk_eq, if_pos h0, if_neg h1, h2, ite11, ite01, if_true, if_false]
theorem gsX_X6_unit_7_q3 {NF : Nat} {v : Nat → Int32} {f : Nat → Nat → Int32} {v19 : Nat → Int32} {f20 : Nat → Nat → Int32} (h0 : ¬ ((v 2) = 2)) (h1 : ((v 2) < 116)) (h2 : ¬ ((v 2) = 40)) (h3 : gsX_X6_refuse_1 NF v f = (1, v19, f20)) : gsX_X6_unit_7 NF v f = (1, v19, f20) := by
  simp only [gsX_X6_unit_7, stk_eq, if_neg h0, if_pos h1, if_neg h2, h3, ite11, ite01, if_true, if_false]
theorem gsX_X6_unit_7_q4 {NF : Nat} {v : Nat → Int32} {f : Nat → Nat → Int32} {v19 : Nat → Int32} {f20 : Nat → Nat → Int32} (h0 : ¬ ((v 2) = 2)) (h1 : ((v 2) < 116)) (h2 : ¬ ((v 2) = 40)) (h3 : gsX_X6_refuse_1 NF v f = (0, v19, f20)) : gsX_X6_unit_7 NF v f = (0, v19, f20) := by
  simp only [gsX_X6_unit_7, stk_eq, if_neg h0, if_pos h1, if_neg h2, h3, ite11, ite01, if_true, if_false]
theorem gsX_X6_unit_7_q5 {NF : Nat} {v : Nat → Int32} {f : Nat → Nat → Int32} {t23 : Int32} {v26 : Nat → Int32} {f27 : Nat → Nat → Int32} {v30 : Nat → Int32} {f31 : Nat → Nat → Int32} {v35 : Nat → Int32} {f36 : Nat → Nat → Int32} (h0 : ¬ ((v 2) = 2)) (h1 : ((v 2) < 116)) (h2 : ((v 2) = 40)) (h3 : ((v 17) < 30)) (h4 : t23 = (v 17) + 1) (h5 : gsX_X9_advance_1 NF (upd v 17 t23) f = (v26, f27)) (h6 : gsX_X6_expression_43 NF v26 f27 = (1, v30, f31)) (h8 : gsX_X6_taken_1 NF 41 v30 f31 = (1, v35, f36)) : gsX_X6_unit_7 NF v f = (1, v35, f36) := by
  subst h4
  simp only [gsX_X6_unit_7, stk_eq, if_neg h0, if_pos h1, if_pos h2, if_pos h3, h5, h6, h8, ite11, ite01, if_true, if_false]
theorem gsX_X6_unit_7_q6 {NF : Nat} {v : Nat → Int32} {f : Nat → Nat → Int32} {t23 : Int32} {v26 : Nat → Int32} {f27 : Nat → Nat → Int32} {v30 : Nat → Int32} {f31 : Nat → Nat → Int32} {v35 : Nat → Int32} {f36 : Nat → Nat → Int32} (h0 : ¬ ((v 2) = 2)) (h1 : ((v 2) < 116)) (h2 : ((v 2) = 40)) (h3 : ((v 17) < 30)) (h4 : t23 = (v 17) + 1) (h5 : gsX_X9_advance_1 NF (upd v 17 t23) f = (v26, f27)) (h6 : gsX_X6_expression_43 NF v26 f27 = (1, v30, f31)) (h8 : gsX_X6_taken_1 NF 41 v30 f31 = (0, v35, f36)) : gsX_X6_unit_7 NF v f = (0, v35, f36) := by
  subst h4
  simp only [gsX_X6_unit_7, stk_eq, if_neg h0, if_pos h1, if_pos h2, if_pos h3, h5, h6, h8, ite11, ite01, if_true, if_false]
theorem gsX_X6_unit_7_q7 {NF : Nat} {v : Nat → Int32} {f : Nat → Nat → Int32} {t23 : Int32} {v26 : Nat → Int32} {f27 : Nat → Nat → Int32} {v30 : Nat → Int32} {f31 : Nat → Nat → Int32} (h0 : ¬ ((v 2) = 2)) (h1 : ((v 2) < 116)) (h2 : ((v 2) = 40)) (h3 : ((v 17) < 30)) (h4 : t23 = (v 17) + 1) (h5 : gsX_X9_advance_1 NF (upd v 17 t23) f = (v26, f27)) (h6 : gsX_X6_expression_43 NF v26 f27 = (0, v30, f31)) : gsX_X6_unit_7 NF v f = (0, v30, f31) := by
  subst h4
  simp only [gsX_X6_unit_7, stk_eq, if_neg h0, if_pos h1, if_pos h2, if_pos h3, h5, h6, ite11, ite01, if_true, if_false]
theorem gsX_X6_unit_7_q8 {NF : Nat} {v : Nat → Int32} {f : Nat → Nat → Int32} {v40 : Nat → Int32} {f41 : Nat → Nat → Int32} (h0 : ¬ ((v 2) = 2)) (h1 : ((v 2) < 116)) (h2 : ((v 2) = 40)) (h3 : ¬ ((v 17) < 30)) (h4 : gsX_X6_refuse_1 NF v f = (1, v40, f41)) : gsX_X6_unit_7 NF v f = (1, v40, f41) := by
  simp only [gsX_X6_unit_7, stk_eq, if_neg h0, if_pos h1, if_pos h2, if_neg h3, h4, ite11, ite01, if_true, if_false]
theorem gsX_X6_unit_7_q9 {NF : Nat} {v : Nat → Int32} {f : Nat → Nat → Int32} {v40 : Nat → Int32} {f41 : Nat → Nat → Int32} (h0 : ¬ ((v 2) = 2)) (h1 : ((v 2) < 116)) (h2 : ((v 2) = 40)) (h3 : ¬ ((v 17) < 30)) (h4 : gsX_X6_refuse_1 NF v f = (0, v40, f41)) : gsX_X6_unit_7 NF v f = (0, v40, f41) := by
  simp only [gsX_X6_unit_7, stk_eq, if_neg h0, if_pos h1, if_pos h2, if_neg h3, h4, ite11, ite01, if_true, if_false]
theorem gsX_X6_unit_7_q10 {NF : Nat} {v : Nat → Int32} {f : Nat → Nat → Int32} {v47 : Nat → Int32} {f48 : Nat → Nat → Int32} (h0 : ¬ ((v 2) = 2)) (h1 : ¬ ((v 2) < 116)) (h2 : (121 < (v 2))) (h3 : ¬ ((v 2) = 40)) (h4 : gsX_X6_refuse_1 NF v f = (1, v47, f48)) : gsX_X6_unit_7 NF v f = (1, v47, f48) := by
  simp only [gsX_X6_unit_7, stk_eq, if_neg h0, if_neg h1, if_pos h2, if_neg h3, h4, ite11, ite01, if_true, if_false]
theorem gsX_X6_unit_7_q11 {NF : Nat} {v : Nat → Int32} {f : Nat → Nat → Int32} {v47 : Nat → Int32} {f48 : Nat → Nat → Int32} (h0 : ¬ ((v 2) = 2)) (h1 : ¬ ((v 2) < 116)) (h2 : (121 < (v 2))) (h3 : ¬ ((v 2) = 40)) (h4 : gsX_X6_refuse_1 NF v f = (0, v47, f48)) : gsX_X6_unit_7 NF v f = (0, v47, f48) := by
  simp only [gsX_X6_unit_7, stk_eq, if_neg h0, if_neg h1, if_pos h2, if_neg h3, h4, ite11, ite01, if_true, if_false]
theorem gsX_X6_unit_7_q12 {NF : Nat} {v : Nat → Int32} {f : Nat → Nat → Int32} {t51 : Int32} {v54 : Nat → Int32} {f55 : Nat → Nat → Int32} {v58 : Nat → Int32} {f59 : Nat → Nat → Int32} {v63 : Nat → Int32} {f64 : Nat → Nat → Int32} (h0 : ¬ ((v 2) = 2)) (h1 : ¬ ((v 2) < 116)) (h2 : (121 < (v 2))) (h3 : ((v 2) = 40)) (h4 : ((v 17) < 30)) (h5 : t51 = (v 17) + 1) (h6 : gsX_X9_advance_1 NF (upd v 17 t51) f = (v54, f55)) (h7 : gsX_X6_expression_43 NF v54 f55 = (1, v58, f59)) (h9 : gsX_X6_taken_1 NF 41 v58 f59 = (1, v63, f64)) : gsX_X6_unit_7 NF v f = (1, v63, f64) := by
  subst h5
  simp only [gsX_X6_unit_7, stk_eq, if_neg h0, if_neg h1, if_pos h2, if_pos h3, if_pos h4, h6, h7, h9, ite11, ite01, if_true, if_false]
theorem gsX_X6_unit_7_q13 {NF : Nat} {v : Nat → Int32} {f : Nat → Nat → Int32} {t51 : Int32} {v54 : Nat → Int32} {f55 : Nat → Nat → Int32} {v58 : Nat → Int32} {f59 : Nat → Nat → Int32} {v63 : Nat → Int32} {f64 : Nat → Nat → Int32} (h0 : ¬ ((v 2) = 2)) (h1 : ¬ ((v 2) < 116)) (h2 : (121 < (v 2))) (h3 : ((v 2) = 40)) (h4 : ((v 17) < 30)) (h5 : t51 = (v 17) + 1) (h6 : gsX_X9_advance_1 NF (upd v 17 t51) f = (v54, f55)) (h7 : gsX_X6_expression_43 NF v54 f55 = (1, v58, f59)) (h9 : gsX_X6_taken_1 NF 41 v58 f59 = (0, v63, f64)) : gsX_X6_unit_7 NF v f = (0, v63, f64) := by
  subst h5
  simp only [gsX_X6_unit_7, stk_eq, if_neg h0, if_neg h1, if_pos h2, if_pos h3, if_pos h4, h6, h7, h9, ite11, ite01, if_true, if_false]
theorem gsX_X6_unit_7_q14 {NF : Nat} {v : Nat → Int32} {f : Nat → Nat → Int32} {t51 : Int32} {v54 : Nat → Int32} {f55 : Nat → Nat → Int32} {v58 : Nat → Int32} {f59 : Nat → Nat → Int32} (h0 : ¬ ((v 2) = 2)) (h1 : ¬ ((v 2) < 116)) (h2 : (121 < (v 2))) (h3 : ((v 2) = 40)) (h4 : ((v 17) < 30)) (h5 : t51 = (v 17) + 1) (h6 : gsX_X9_advance_1 NF (upd v 17 t51) f = (v54, f55)) (h7 : gsX_X6_expression_43 NF v54 f55 = (0, v58, f59)) : gsX_X6_unit_7 NF v f = (0, v58, f59) := by
  subst h5
  simp only [gsX_X6_unit_7, stk_eq, if_neg h0, if_neg h1, if_pos h2, if_pos h3, if_pos h4, h6, h7, ite11, ite01, if_true, if_false]
theorem gsX_X6_unit_7_q15 {NF : Nat} {v : Nat → Int32} {f : Nat → Nat → Int32} {v68 : Nat → Int32} {f69 : Nat → Nat → Int32} (h0 : ¬ ((v 2) = 2)) (h1 : ¬ ((v 2) < 116)) (h2 : (121 < (v 2))) (h3 : ((v 2) = 40)) (h4 : ¬ ((v 17) < 30)) (h5 : gsX_X6_refuse_1 NF v f = (1, v68, f69)) : gsX_X6_unit_7 NF v f = (1, v68, f69) := by
  simp only [gsX_X6_unit_7, stk_eq, if_neg h0, if_neg h1, if_pos h2, if_pos h3, if_neg h4, h5, ite11, ite01, if_true, if_false]
theorem gsX_X6_unit_7_q16 {NF : Nat} {v : Nat → Int32} {f : Nat → Nat → Int32} {v68 : Nat → Int32} {f69 : Nat → Nat → Int32} (h0 : ¬ ((v 2) = 2)) (h1 : ¬ ((v 2) < 116)) (h2 : (121 < (v 2))) (h3 : ((v 2) = 40)) (h4 : ¬ ((v 17) < 30)) (h5 : gsX_X6_refuse_1 NF v f = (0, v68, f69)) : gsX_X6_unit_7 NF v f = (0, v68, f69) := by
  simp only [gsX_X6_unit_7, stk_eq, if_neg h0, if_neg h1, if_pos h2, if_pos h3, if_neg h4, h5, ite11, ite01, if_true, if_false]
theorem gsX_X6_unit_7_q17 {NF : Nat} {v : Nat → Int32} {f : Nat → Nat → Int32} {v73 : Nat → Int32} {f74 : Nat → Nat → Int32} {t75 : Int32} {v77 : Nat → Int32} {f78 : Nat → Nat → Int32} (h0 : ¬ ((v 2) = 2)) (h1 : ¬ ((v 2) < 116)) (h2 : ¬ (121 < (v 2))) (h3 : ((v 17) < 30)) (h4 : gsX_X4_add_1 NF (v 2) (v 5) v f = (v73, f74)) (h5 : t75 = (v73 17) + 1) (h6 : gsX_X9_advance_1 NF (upd v73 17 t75) f74 = (v77, f78)) : gsX_X6_unit_7 NF v f = (1, v77, f78) := by
  subst h5
  simp only [gsX_X6_unit_7, stk_eq, if_neg h0, if_neg h1, if_neg h2, if_pos h3, h4, h6]
theorem gsX_X6_unit_7_q18 {NF : Nat} {v : Nat → Int32} {f : Nat → Nat → Int32} {v81 : Nat → Int32} {f82 : Nat → Nat → Int32} (h0 : ¬ ((v 2) = 2)) (h1 : ¬ ((v 2) < 116)) (h2 : ¬ (121 < (v 2))) (h3 : ¬ ((v 17) < 30)) (h4 : gsX_X6_refuse_1 NF v f = (1, v81, f82)) : gsX_X6_unit_7 NF v f = (1, v81, f82) := by
  simp only [gsX_X6_unit_7, stk_eq, if_neg h0, if_neg h1, if_neg h2, if_neg h3, h4, ite11, ite01, if_true, if_false]
theorem gsX_X6_unit_7_q19 {NF : Nat} {v : Nat → Int32} {f : Nat → Nat → Int32} {v81 : Nat → Int32} {f82 : Nat → Nat → Int32} (h0 : ¬ ((v 2) = 2)) (h1 : ¬ ((v 2) < 116)) (h2 : ¬ (121 < (v 2))) (h3 : ¬ ((v 17) < 30)) (h4 : gsX_X6_refuse_1 NF v f = (0, v81, f82)) : gsX_X6_unit_7 NF v f = (0, v81, f82) := by
  simp only [gsX_X6_unit_7, stk_eq, if_neg h0, if_neg h1, if_neg h2, if_neg h3, h4, ite11, ite01, if_true, if_false]
def gsX_X6_expression_42 (NF : Nat) (v : Nat → Int32) (f : Nat → Nat → Int32) : Int32 × (Nat → Int32) × (Nat → Nat → Int32) :=
  match gsX_X6_unit_7 NF v f with
  | (r1, v3, f4) =>
    if r1 = 1 then
      (1, v3, f4)
    else
      (0, v3, f4)
theorem gsX_X6_expression_42_q0 {NF : Nat} {v : Nat → Int32} {f : Nat → Nat → Int32} {v3 : Nat → Int32} {f4 : Nat → Nat → Int32} (h0 : gsX_X6_unit_7 NF v f = (1, v3, f4)) : gsX_X6_expression_42 NF v f = (1, v3, f4) := by
  simp only [gsX_X6_expression_42, h0, ite11, ite01, if_true, if_false]
theorem gsX_X6_expression_42_q1 {NF : Nat} {v : Nat → Int32} {f : Nat → Nat → Int32} {v3 : Nat → Int32} {f4 : Nat → Nat → Int32} (h0 : gsX_X6_unit_7 NF v f = (0, v3, f4)) : gsX_X6_expression_42 NF v f = (0, v3, f4) := by
  simp only [gsX_X6_expression_42, h0, ite11, ite01, if_true, if_false]
def gsX_X6_expression_41_L6 (NF : Nat) : Nat → (Int32) → (Nat → Int32) → (Nat → Nat → Int32) → Int32 × (Nat → Int32) × (Nat → Nat → Int32)
  | 0, _, _, _ => (0, (fun _ => 0), (fun _ _ => 0))
  | n6 + 1, l4_6, v6, f6 =>
    if 1600 ≤ l4_6 then
      (1, v6, f6)
    else
      if gsX_X6_joins_1 NF 4 (v6 2) v6 f6 = 1 then
        match gsX_X9_advance_1 NF v6 f6 with
        | (v12, f13) =>
          match gsX_X6_expression_42 NF v12 f13 with
          | (r14, v16, f17) =>
            if r14 = 1 then
              match gsX_X4_add_1 NF (v6 2) 0 v16 f17 with
              | (v20, f21) =>
                let t22 : Int32 := l4_6 + 1
                gsX_X6_expression_41_L6 NF n6 t22 v20 f21
            else
              (0, v16, f17)
      else
        (1, v6, f6)
def gsX_X6_expression_41 (NF : Nat) (v : Nat → Int32) (f : Nat → Nat → Int32) : Int32 × (Nat → Int32) × (Nat → Nat → Int32) :=
  match gsX_X6_expression_42 NF v f with
  | (r1, v3, f4) =>
    if r1 = 1 then
      gsX_X6_expression_41_L6 NF (4294967296 + NF) 0 v3 f4
    else
      (0, v3, f4)
theorem gsX_X6_expression_41_q4 {NF : Nat} {v : Nat → Int32} {f : Nat → Nat → Int32} {v3 : Nat → Int32} {f4 : Nat → Nat → Int32} (h0 : gsX_X6_expression_42 NF v f = (1, v3, f4)) : gsX_X6_expression_41 NF v f = gsX_X6_expression_41_L6 NF (4294967296 + NF) 0 v3 f4 := by
  simp only [gsX_X6_expression_41, h0, ite11, ite01, if_true, if_false]
theorem gsX_X6_expression_41_q5 {NF : Nat} {v : Nat → Int32} {f : Nat → Nat → Int32} {v3 : Nat → Int32} {f4 : Nat → Nat → Int32} (h0 : gsX_X6_expression_42 NF v f = (0, v3, f4)) : gsX_X6_expression_41 NF v f = (0, v3, f4) := by
  simp only [gsX_X6_expression_41, h0, ite11, ite01, if_true, if_false]
theorem gsX_X6_expression_41_q0 {NF : Nat} {n6 : Nat} {l4_6 : Int32} {v6 : Nat → Int32} {f6 : Nat → Nat → Int32} (h0 : (1600 ≤ l4_6)) : gsX_X6_expression_41_L6 NF (n6 + 1) l4_6 v6 f6 = (1, v6, f6) := by
  simp only [gsX_X6_expression_41_L6, if_pos h0]
theorem gsX_X6_expression_41_q1 {NF : Nat} {n6 : Nat} {l4_6 : Int32} {v6 : Nat → Int32} {f6 : Nat → Nat → Int32} {v12 : Nat → Int32} {f13 : Nat → Nat → Int32} {v16 : Nat → Int32} {f17 : Nat → Nat → Int32} {v20 : Nat → Int32} {f21 : Nat → Nat → Int32} {t22 : Int32} (h0 : ¬ (1600 ≤ l4_6)) (h1 : gsX_X6_joins_1 NF 4 (v6 2) v6 f6 = 1) (h2 : gsX_X9_advance_1 NF v6 f6 = (v12, f13)) (h3 : gsX_X6_expression_42 NF v12 f13 = (1, v16, f17)) (h5 : gsX_X4_add_1 NF (v6 2) 0 v16 f17 = (v20, f21)) (h6 : t22 = l4_6 + 1) : gsX_X6_expression_41_L6 NF (n6 + 1) l4_6 v6 f6 = gsX_X6_expression_41_L6 NF n6 t22 v20 f21 := by
  subst h6
  simp only [gsX_X6_expression_41_L6, if_neg h0, h1, h2, h3, h5, ite11, ite01, if_true, if_false]
theorem gsX_X6_expression_41_q2 {NF : Nat} {n6 : Nat} {l4_6 : Int32} {v6 : Nat → Int32} {f6 : Nat → Nat → Int32} {v12 : Nat → Int32} {f13 : Nat → Nat → Int32} {v16 : Nat → Int32} {f17 : Nat → Nat → Int32} (h0 : ¬ (1600 ≤ l4_6)) (h1 : gsX_X6_joins_1 NF 4 (v6 2) v6 f6 = 1) (h2 : gsX_X9_advance_1 NF v6 f6 = (v12, f13)) (h3 : gsX_X6_expression_42 NF v12 f13 = (0, v16, f17)) : gsX_X6_expression_41_L6 NF (n6 + 1) l4_6 v6 f6 = (0, v16, f17) := by
  simp only [gsX_X6_expression_41_L6, if_neg h0, h1, h2, h3, ite11, ite01, if_true, if_false]
theorem gsX_X6_expression_41_q3 {NF : Nat} {n6 : Nat} {l4_6 : Int32} {v6 : Nat → Int32} {f6 : Nat → Nat → Int32} (h0 : ¬ (1600 ≤ l4_6)) (h1 : gsX_X6_joins_1 NF 4 (v6 2) v6 f6 = 0) : gsX_X6_expression_41_L6 NF (n6 + 1) l4_6 v6 f6 = (1, v6, f6) := by
  simp only [gsX_X6_expression_41_L6, if_neg h0, h1, ite11, ite01, if_true, if_false]
def gsX_X6_expression_40_L6 (NF : Nat) : Nat → (Int32) → (Nat → Int32) → (Nat → Nat → Int32) → Int32 × (Nat → Int32) × (Nat → Nat → Int32)
  | 0, _, _, _ => (0, (fun _ => 0), (fun _ _ => 0))
  | n6 + 1, l4_6, v6, f6 =>
    if 1600 ≤ l4_6 then
      (1, v6, f6)
    else
      if gsX_X6_joins_1 NF 3 (v6 2) v6 f6 = 1 then
        match gsX_X9_advance_1 NF v6 f6 with
        | (v12, f13) =>
          match gsX_X6_expression_41 NF v12 f13 with
          | (r14, v16, f17) =>
            if r14 = 1 then
              match gsX_X4_add_1 NF (v6 2) 0 v16 f17 with
              | (v20, f21) =>
                let t22 : Int32 := l4_6 + 1
                gsX_X6_expression_40_L6 NF n6 t22 v20 f21
            else
              (0, v16, f17)
      else
        (1, v6, f6)
def gsX_X6_expression_40 (NF : Nat) (v : Nat → Int32) (f : Nat → Nat → Int32) : Int32 × (Nat → Int32) × (Nat → Nat → Int32) :=
  match gsX_X6_expression_41 NF v f with
  | (r1, v3, f4) =>
    if r1 = 1 then
      gsX_X6_expression_40_L6 NF (4294967296 + NF) 0 v3 f4
    else
      (0, v3, f4)
theorem gsX_X6_expression_40_q4 {NF : Nat} {v : Nat → Int32} {f : Nat → Nat → Int32} {v3 : Nat → Int32} {f4 : Nat → Nat → Int32} (h0 : gsX_X6_expression_41 NF v f = (1, v3, f4)) : gsX_X6_expression_40 NF v f = gsX_X6_expression_40_L6 NF (4294967296 + NF) 0 v3 f4 := by
  simp only [gsX_X6_expression_40, h0, ite11, ite01, if_true, if_false]
theorem gsX_X6_expression_40_q5 {NF : Nat} {v : Nat → Int32} {f : Nat → Nat → Int32} {v3 : Nat → Int32} {f4 : Nat → Nat → Int32} (h0 : gsX_X6_expression_41 NF v f = (0, v3, f4)) : gsX_X6_expression_40 NF v f = (0, v3, f4) := by
  simp only [gsX_X6_expression_40, h0, ite11, ite01, if_true, if_false]
theorem gsX_X6_expression_40_q0 {NF : Nat} {n6 : Nat} {l4_6 : Int32} {v6 : Nat → Int32} {f6 : Nat → Nat → Int32} (h0 : (1600 ≤ l4_6)) : gsX_X6_expression_40_L6 NF (n6 + 1) l4_6 v6 f6 = (1, v6, f6) := by
  simp only [gsX_X6_expression_40_L6, if_pos h0]
theorem gsX_X6_expression_40_q1 {NF : Nat} {n6 : Nat} {l4_6 : Int32} {v6 : Nat → Int32} {f6 : Nat → Nat → Int32} {v12 : Nat → Int32} {f13 : Nat → Nat → Int32} {v16 : Nat → Int32} {f17 : Nat → Nat → Int32} {v20 : Nat → Int32} {f21 : Nat → Nat → Int32} {t22 : Int32} (h0 : ¬ (1600 ≤ l4_6)) (h1 : gsX_X6_joins_1 NF 3 (v6 2) v6 f6 = 1) (h2 : gsX_X9_advance_1 NF v6 f6 = (v12, f13)) (h3 : gsX_X6_expression_41 NF v12 f13 = (1, v16, f17)) (h5 : gsX_X4_add_1 NF (v6 2) 0 v16 f17 = (v20, f21)) (h6 : t22 = l4_6 + 1) : gsX_X6_expression_40_L6 NF (n6 + 1) l4_6 v6 f6 = gsX_X6_expression_40_L6 NF n6 t22 v20 f21 := by
  subst h6
  simp only [gsX_X6_expression_40_L6, if_neg h0, h1, h2, h3, h5, ite11, ite01, if_true, if_false]
theorem gsX_X6_expression_40_q2 {NF : Nat} {n6 : Nat} {l4_6 : Int32} {v6 : Nat → Int32} {f6 : Nat → Nat → Int32} {v12 : Nat → Int32} {f13 : Nat → Nat → Int32} {v16 : Nat → Int32} {f17 : Nat → Nat → Int32} (h0 : ¬ (1600 ≤ l4_6)) (h1 : gsX_X6_joins_1 NF 3 (v6 2) v6 f6 = 1) (h2 : gsX_X9_advance_1 NF v6 f6 = (v12, f13)) (h3 : gsX_X6_expression_41 NF v12 f13 = (0, v16, f17)) : gsX_X6_expression_40_L6 NF (n6 + 1) l4_6 v6 f6 = (0, v16, f17) := by
  simp only [gsX_X6_expression_40_L6, if_neg h0, h1, h2, h3, ite11, ite01, if_true, if_false]
theorem gsX_X6_expression_40_q3 {NF : Nat} {n6 : Nat} {l4_6 : Int32} {v6 : Nat → Int32} {f6 : Nat → Nat → Int32} (h0 : ¬ (1600 ≤ l4_6)) (h1 : gsX_X6_joins_1 NF 3 (v6 2) v6 f6 = 0) : gsX_X6_expression_40_L6 NF (n6 + 1) l4_6 v6 f6 = (1, v6, f6) := by
  simp only [gsX_X6_expression_40_L6, if_neg h0, h1, ite11, ite01, if_true, if_false]
def gsX_X6_negation_2 (NF : Nat) (v : Nat → Int32) (f : Nat → Nat → Int32) : Int32 × (Nat → Int32) × (Nat → Nat → Int32) :=
  match gsX_X9_advance_1 NF v f with
  | (v2, f3) =>
    match stk NF (gsX_X6_expression_45 NF v2 f3) with
    | (r4, v6, f7) =>
      if r4 = 1 then
        match gsX_X4_add_1 NF 115 0 v6 f7 with
        | (v10, f11) =>
          (1, v10, f11)
      else
        (0, v6, f7)
theorem gsX_X6_negation_2_q0 {NF : Nat} {v : Nat → Int32} {f : Nat → Nat → Int32} {v2 : Nat → Int32} {f3 : Nat → Nat → Int32} {v6 : Nat → Int32} {f7 : Nat → Nat → Int32} {v10 : Nat → Int32} {f11 : Nat → Nat → Int32} (h0 : gsX_X9_advance_1 NF v f = (v2, f3)) (h1 : gsX_X6_expression_45 NF v2 f3 = (1, v6, f7)) (h3 : gsX_X4_add_1 NF 115 0 v6 f7 = (v10, f11)) : gsX_X6_negation_2 NF v f = (1, v10, f11) := by
  simp only [gsX_X6_negation_2, stk_eq, h0, h1, h3, ite11, ite01, if_true, if_false]
theorem gsX_X6_negation_2_q1 {NF : Nat} {v : Nat → Int32} {f : Nat → Nat → Int32} {v2 : Nat → Int32} {f3 : Nat → Nat → Int32} {v6 : Nat → Int32} {f7 : Nat → Nat → Int32} (h0 : gsX_X9_advance_1 NF v f = (v2, f3)) (h1 : gsX_X6_expression_45 NF v2 f3 = (0, v6, f7)) : gsX_X6_negation_2 NF v f = (0, v6, f7) := by
  simp only [gsX_X6_negation_2, stk_eq, h0, h1, ite11, ite01, if_true, if_false]
def gsX_X6_expression_39_L7 (NF : Nat) : Nat → (Int32) → (Nat → Int32) → (Nat → Nat → Int32) → Int32 × (Nat → Int32) × (Nat → Nat → Int32)
  | 0, _, _, _ => (0, (fun _ => 0), (fun _ _ => 0))
  | n7 + 1, l4_7, v7, f7 =>
    if 1 ≤ l4_7 then
      (1, v7, f7)
    else
      if gsX_X6_joins_1 NF 2 (v7 2) v7 f7 = 1 then
        match gsX_X9_advance_1 NF v7 f7 with
        | (v13, f14) =>
          match gsX_X6_expression_40 NF v13 f14 with
          | (r15, v17, f18) =>
            if r15 = 1 then
              match gsX_X4_add_1 NF (v7 2) 0 v17 f18 with
              | (v21, f22) =>
                let t23 : Int32 := l4_7 + 1
                gsX_X6_expression_39_L7 NF n7 t23 v21 f22
            else
              (0, v17, f18)
      else
        (1, v7, f7)
def gsX_X6_expression_39 (NF : Nat) (v : Nat → Int32) (f : Nat → Nat → Int32) : Int32 × (Nat → Int32) × (Nat → Nat → Int32) :=
  if (v 2) = 115 then
    match gsX_X6_negation_2 NF v f with
    | (r26, v28, f29) =>
      if r26 = 1 then
        (1, v28, f29)
      else
        (0, v28, f29)
  else
    match gsX_X6_expression_40 NF v f with
    | (r2, v4, f5) =>
      if r2 = 1 then
        gsX_X6_expression_39_L7 NF (4294967296 + NF) 0 v4 f5
      else
        (0, v4, f5)
theorem gsX_X6_expression_39_q4 {NF : Nat} {v : Nat → Int32} {f : Nat → Nat → Int32} {v4 : Nat → Int32} {f5 : Nat → Nat → Int32} (h0 : ¬ ((v 2) = 115)) (h1 : gsX_X6_expression_40 NF v f = (1, v4, f5)) : gsX_X6_expression_39 NF v f = gsX_X6_expression_39_L7 NF (4294967296 + NF) 0 v4 f5 := by
  simp only [gsX_X6_expression_39, if_neg h0, h1, ite11, ite01, if_true, if_false]
theorem gsX_X6_expression_39_q5 {NF : Nat} {v : Nat → Int32} {f : Nat → Nat → Int32} {v4 : Nat → Int32} {f5 : Nat → Nat → Int32} (h0 : ¬ ((v 2) = 115)) (h1 : gsX_X6_expression_40 NF v f = (0, v4, f5)) : gsX_X6_expression_39 NF v f = (0, v4, f5) := by
  simp only [gsX_X6_expression_39, if_neg h0, h1, ite11, ite01, if_true, if_false]
theorem gsX_X6_expression_39_q6 {NF : Nat} {v : Nat → Int32} {f : Nat → Nat → Int32} {v28 : Nat → Int32} {f29 : Nat → Nat → Int32} (h0 : ((v 2) = 115)) (h1 : gsX_X6_negation_2 NF v f = (1, v28, f29)) : gsX_X6_expression_39 NF v f = (1, v28, f29) := by
  simp only [gsX_X6_expression_39, if_pos h0, h1, ite11, ite01, if_true, if_false]
theorem gsX_X6_expression_39_q7 {NF : Nat} {v : Nat → Int32} {f : Nat → Nat → Int32} {v28 : Nat → Int32} {f29 : Nat → Nat → Int32} (h0 : ((v 2) = 115)) (h1 : gsX_X6_negation_2 NF v f = (0, v28, f29)) : gsX_X6_expression_39 NF v f = (0, v28, f29) := by
  simp only [gsX_X6_expression_39, if_pos h0, h1, ite11, ite01, if_true, if_false]
theorem gsX_X6_expression_39_q0 {NF : Nat} {n7 : Nat} {l4_7 : Int32} {v7 : Nat → Int32} {f7 : Nat → Nat → Int32} (h0 : (1 ≤ l4_7)) : gsX_X6_expression_39_L7 NF (n7 + 1) l4_7 v7 f7 = (1, v7, f7) := by
  simp only [gsX_X6_expression_39_L7, if_pos h0]
theorem gsX_X6_expression_39_q1 {NF : Nat} {n7 : Nat} {l4_7 : Int32} {v7 : Nat → Int32} {f7 : Nat → Nat → Int32} {v13 : Nat → Int32} {f14 : Nat → Nat → Int32} {v17 : Nat → Int32} {f18 : Nat → Nat → Int32} {v21 : Nat → Int32} {f22 : Nat → Nat → Int32} {t23 : Int32} (h0 : ¬ (1 ≤ l4_7)) (h1 : gsX_X6_joins_1 NF 2 (v7 2) v7 f7 = 1) (h2 : gsX_X9_advance_1 NF v7 f7 = (v13, f14)) (h3 : gsX_X6_expression_40 NF v13 f14 = (1, v17, f18)) (h5 : gsX_X4_add_1 NF (v7 2) 0 v17 f18 = (v21, f22)) (h6 : t23 = l4_7 + 1) : gsX_X6_expression_39_L7 NF (n7 + 1) l4_7 v7 f7 = gsX_X6_expression_39_L7 NF n7 t23 v21 f22 := by
  subst h6
  simp only [gsX_X6_expression_39_L7, if_neg h0, h1, h2, h3, h5, ite11, ite01, if_true, if_false]
theorem gsX_X6_expression_39_q2 {NF : Nat} {n7 : Nat} {l4_7 : Int32} {v7 : Nat → Int32} {f7 : Nat → Nat → Int32} {v13 : Nat → Int32} {f14 : Nat → Nat → Int32} {v17 : Nat → Int32} {f18 : Nat → Nat → Int32} (h0 : ¬ (1 ≤ l4_7)) (h1 : gsX_X6_joins_1 NF 2 (v7 2) v7 f7 = 1) (h2 : gsX_X9_advance_1 NF v7 f7 = (v13, f14)) (h3 : gsX_X6_expression_40 NF v13 f14 = (0, v17, f18)) : gsX_X6_expression_39_L7 NF (n7 + 1) l4_7 v7 f7 = (0, v17, f18) := by
  simp only [gsX_X6_expression_39_L7, if_neg h0, h1, h2, h3, ite11, ite01, if_true, if_false]
theorem gsX_X6_expression_39_q3 {NF : Nat} {n7 : Nat} {l4_7 : Int32} {v7 : Nat → Int32} {f7 : Nat → Nat → Int32} (h0 : ¬ (1 ≤ l4_7)) (h1 : gsX_X6_joins_1 NF 2 (v7 2) v7 f7 = 0) : gsX_X6_expression_39_L7 NF (n7 + 1) l4_7 v7 f7 = (1, v7, f7) := by
  simp only [gsX_X6_expression_39_L7, if_neg h0, h1, ite11, ite01, if_true, if_false]
def gsX_X6_expression_38_L6 (NF : Nat) : Nat → (Int32) → (Nat → Int32) → (Nat → Nat → Int32) → Int32 × (Nat → Int32) × (Nat → Nat → Int32)
  | 0, _, _, _ => (0, (fun _ => 0), (fun _ _ => 0))
  | n6 + 1, l4_6, v6, f6 =>
    if 1600 ≤ l4_6 then
      (1, v6, f6)
    else
      if gsX_X6_joins_1 NF 1 (v6 2) v6 f6 = 1 then
        match gsX_X9_advance_1 NF v6 f6 with
        | (v12, f13) =>
          match gsX_X6_expression_39 NF v12 f13 with
          | (r14, v16, f17) =>
            if r14 = 1 then
              match gsX_X4_add_1 NF (v6 2) 0 v16 f17 with
              | (v20, f21) =>
                let t22 : Int32 := l4_6 + 1
                gsX_X6_expression_38_L6 NF n6 t22 v20 f21
            else
              (0, v16, f17)
      else
        (1, v6, f6)
def gsX_X6_expression_38 (NF : Nat) (v : Nat → Int32) (f : Nat → Nat → Int32) : Int32 × (Nat → Int32) × (Nat → Nat → Int32) :=
  match gsX_X6_expression_39 NF v f with
  | (r1, v3, f4) =>
    if r1 = 1 then
      gsX_X6_expression_38_L6 NF (4294967296 + NF) 0 v3 f4
    else
      (0, v3, f4)
theorem gsX_X6_expression_38_q4 {NF : Nat} {v : Nat → Int32} {f : Nat → Nat → Int32} {v3 : Nat → Int32} {f4 : Nat → Nat → Int32} (h0 : gsX_X6_expression_39 NF v f = (1, v3, f4)) : gsX_X6_expression_38 NF v f = gsX_X6_expression_38_L6 NF (4294967296 + NF) 0 v3 f4 := by
  simp only [gsX_X6_expression_38, h0, ite11, ite01, if_true, if_false]
theorem gsX_X6_expression_38_q5 {NF : Nat} {v : Nat → Int32} {f : Nat → Nat → Int32} {v3 : Nat → Int32} {f4 : Nat → Nat → Int32} (h0 : gsX_X6_expression_39 NF v f = (0, v3, f4)) : gsX_X6_expression_38 NF v f = (0, v3, f4) := by
  simp only [gsX_X6_expression_38, h0, ite11, ite01, if_true, if_false]
theorem gsX_X6_expression_38_q0 {NF : Nat} {n6 : Nat} {l4_6 : Int32} {v6 : Nat → Int32} {f6 : Nat → Nat → Int32} (h0 : (1600 ≤ l4_6)) : gsX_X6_expression_38_L6 NF (n6 + 1) l4_6 v6 f6 = (1, v6, f6) := by
  simp only [gsX_X6_expression_38_L6, if_pos h0]
theorem gsX_X6_expression_38_q1 {NF : Nat} {n6 : Nat} {l4_6 : Int32} {v6 : Nat → Int32} {f6 : Nat → Nat → Int32} {v12 : Nat → Int32} {f13 : Nat → Nat → Int32} {v16 : Nat → Int32} {f17 : Nat → Nat → Int32} {v20 : Nat → Int32} {f21 : Nat → Nat → Int32} {t22 : Int32} (h0 : ¬ (1600 ≤ l4_6)) (h1 : gsX_X6_joins_1 NF 1 (v6 2) v6 f6 = 1) (h2 : gsX_X9_advance_1 NF v6 f6 = (v12, f13)) (h3 : gsX_X6_expression_39 NF v12 f13 = (1, v16, f17)) (h5 : gsX_X4_add_1 NF (v6 2) 0 v16 f17 = (v20, f21)) (h6 : t22 = l4_6 + 1) : gsX_X6_expression_38_L6 NF (n6 + 1) l4_6 v6 f6 = gsX_X6_expression_38_L6 NF n6 t22 v20 f21 := by
  subst h6
  simp only [gsX_X6_expression_38_L6, if_neg h0, h1, h2, h3, h5, ite11, ite01, if_true, if_false]
theorem gsX_X6_expression_38_q2 {NF : Nat} {n6 : Nat} {l4_6 : Int32} {v6 : Nat → Int32} {f6 : Nat → Nat → Int32} {v12 : Nat → Int32} {f13 : Nat → Nat → Int32} {v16 : Nat → Int32} {f17 : Nat → Nat → Int32} (h0 : ¬ (1600 ≤ l4_6)) (h1 : gsX_X6_joins_1 NF 1 (v6 2) v6 f6 = 1) (h2 : gsX_X9_advance_1 NF v6 f6 = (v12, f13)) (h3 : gsX_X6_expression_39 NF v12 f13 = (0, v16, f17)) : gsX_X6_expression_38_L6 NF (n6 + 1) l4_6 v6 f6 = (0, v16, f17) := by
  simp only [gsX_X6_expression_38_L6, if_neg h0, h1, h2, h3, ite11, ite01, if_true, if_false]
theorem gsX_X6_expression_38_q3 {NF : Nat} {n6 : Nat} {l4_6 : Int32} {v6 : Nat → Int32} {f6 : Nat → Nat → Int32} (h0 : ¬ (1600 ≤ l4_6)) (h1 : gsX_X6_joins_1 NF 1 (v6 2) v6 f6 = 0) : gsX_X6_expression_38_L6 NF (n6 + 1) l4_6 v6 f6 = (1, v6, f6) := by
  simp only [gsX_X6_expression_38_L6, if_neg h0, h1, ite11, ite01, if_true, if_false]
def gsX_X6_expression_37_L6 (NF : Nat) : Nat → (Int32) → (Nat → Int32) → (Nat → Nat → Int32) → Int32 × (Nat → Int32) × (Nat → Nat → Int32)
  | 0, _, _, _ => (0, (fun _ => 0), (fun _ _ => 0))
  | n6 + 1, l4_6, v6, f6 =>
    if 1600 ≤ l4_6 then
      (1, v6, f6)
    else
      if gsX_X6_joins_1 NF 0 (v6 2) v6 f6 = 1 then
        match gsX_X9_advance_1 NF v6 f6 with
        | (v12, f13) =>
          match gsX_X6_expression_38 NF v12 f13 with
          | (r14, v16, f17) =>
            if r14 = 1 then
              match gsX_X4_add_1 NF (v6 2) 0 v16 f17 with
              | (v20, f21) =>
                let t22 : Int32 := l4_6 + 1
                gsX_X6_expression_37_L6 NF n6 t22 v20 f21
            else
              (0, v16, f17)
      else
        (1, v6, f6)
def gsX_X6_expression_37 (NF : Nat) (v : Nat → Int32) (f : Nat → Nat → Int32) : Int32 × (Nat → Int32) × (Nat → Nat → Int32) :=
  match gsX_X6_expression_38 NF v f with
  | (r1, v3, f4) =>
    if r1 = 1 then
      gsX_X6_expression_37_L6 NF (4294967296 + NF) 0 v3 f4
    else
      (0, v3, f4)
theorem gsX_X6_expression_37_q4 {NF : Nat} {v : Nat → Int32} {f : Nat → Nat → Int32} {v3 : Nat → Int32} {f4 : Nat → Nat → Int32} (h0 : gsX_X6_expression_38 NF v f = (1, v3, f4)) : gsX_X6_expression_37 NF v f = gsX_X6_expression_37_L6 NF (4294967296 + NF) 0 v3 f4 := by
  simp only [gsX_X6_expression_37, h0, ite11, ite01, if_true, if_false]
theorem gsX_X6_expression_37_q5 {NF : Nat} {v : Nat → Int32} {f : Nat → Nat → Int32} {v3 : Nat → Int32} {f4 : Nat → Nat → Int32} (h0 : gsX_X6_expression_38 NF v f = (0, v3, f4)) : gsX_X6_expression_37 NF v f = (0, v3, f4) := by
  simp only [gsX_X6_expression_37, h0, ite11, ite01, if_true, if_false]
theorem gsX_X6_expression_37_q0 {NF : Nat} {n6 : Nat} {l4_6 : Int32} {v6 : Nat → Int32} {f6 : Nat → Nat → Int32} (h0 : (1600 ≤ l4_6)) : gsX_X6_expression_37_L6 NF (n6 + 1) l4_6 v6 f6 = (1, v6, f6) := by
  simp only [gsX_X6_expression_37_L6, if_pos h0]
theorem gsX_X6_expression_37_q1 {NF : Nat} {n6 : Nat} {l4_6 : Int32} {v6 : Nat → Int32} {f6 : Nat → Nat → Int32} {v12 : Nat → Int32} {f13 : Nat → Nat → Int32} {v16 : Nat → Int32} {f17 : Nat → Nat → Int32} {v20 : Nat → Int32} {f21 : Nat → Nat → Int32} {t22 : Int32} (h0 : ¬ (1600 ≤ l4_6)) (h1 : gsX_X6_joins_1 NF 0 (v6 2) v6 f6 = 1) (h2 : gsX_X9_advance_1 NF v6 f6 = (v12, f13)) (h3 : gsX_X6_expression_38 NF v12 f13 = (1, v16, f17)) (h5 : gsX_X4_add_1 NF (v6 2) 0 v16 f17 = (v20, f21)) (h6 : t22 = l4_6 + 1) : gsX_X6_expression_37_L6 NF (n6 + 1) l4_6 v6 f6 = gsX_X6_expression_37_L6 NF n6 t22 v20 f21 := by
  subst h6
  simp only [gsX_X6_expression_37_L6, if_neg h0, h1, h2, h3, h5, ite11, ite01, if_true, if_false]
theorem gsX_X6_expression_37_q2 {NF : Nat} {n6 : Nat} {l4_6 : Int32} {v6 : Nat → Int32} {f6 : Nat → Nat → Int32} {v12 : Nat → Int32} {f13 : Nat → Nat → Int32} {v16 : Nat → Int32} {f17 : Nat → Nat → Int32} (h0 : ¬ (1600 ≤ l4_6)) (h1 : gsX_X6_joins_1 NF 0 (v6 2) v6 f6 = 1) (h2 : gsX_X9_advance_1 NF v6 f6 = (v12, f13)) (h3 : gsX_X6_expression_38 NF v12 f13 = (0, v16, f17)) : gsX_X6_expression_37_L6 NF (n6 + 1) l4_6 v6 f6 = (0, v16, f17) := by
  simp only [gsX_X6_expression_37_L6, if_neg h0, h1, h2, h3, ite11, ite01, if_true, if_false]
theorem gsX_X6_expression_37_q3 {NF : Nat} {n6 : Nat} {l4_6 : Int32} {v6 : Nat → Int32} {f6 : Nat → Nat → Int32} (h0 : ¬ (1600 ≤ l4_6)) (h1 : gsX_X6_joins_1 NF 0 (v6 2) v6 f6 = 0) : gsX_X6_expression_37_L6 NF (n6 + 1) l4_6 v6 f6 = (1, v6, f6) := by
  simp only [gsX_X6_expression_37_L6, if_neg h0, h1, ite11, ite01, if_true, if_false]
def gsX_X6_unit_6 (NF : Nat) (v : Nat → Int32) (f : Nat → Nat → Int32) : Int32 × (Nat → Int32) × (Nat → Nat → Int32) :=
  if (v 2) = 2 then
    if (v 17) < 30 then
      match gsX_X4_add_1 NF (v 2) (v 5) v f with
      | (v4, f5) =>
        let t6 : Int32 := (v4 17) + 1
        match gsX_X9_advance_1 NF (upd v4 17 t6) f5 with
        | (v8, f9) =>
          (1, v8, f9)
    else
      match gsX_X6_refuse_1 NF v f with
      | (r10, v12, f13) =>
        if r10 = 1 then
          (1, v12, f13)
        else
          (0, v12, f13)
  else
    if (v 2) < 116 then
      if (v 2) = 40 then
        if (v 17) < 30 then
          let t23 : Int32 := (v 17) + 1
          match gsX_X9_advance_1 NF (upd v 17 t23) f with
          | (v26, f27) =>
            match stk NF (gsX_X6_expression_37 NF v26 f27) with
            | (r28, v30, f31) =>
              if r28 = 1 then
                match gsX_X6_taken_1 NF 41 v30 f31 with
                | (r33, v35, f36) =>
                  if r33 = 1 then
                    (1, v35, f36)
                  else
                    (0, v35, f36)
              else
                (0, v30, f31)
        else
          match gsX_X6_refuse_1 NF v f with
          | (r38, v40, f41) =>
            if r38 = 1 then
              (1, v40, f41)
            else
              (0, v40, f41)
      else
        match gsX_X6_refuse_1 NF v f with
        | (r17, v19, f20) =>
          if r17 = 1 then
            (1, v19, f20)
          else
            (0, v19, f20)
    else
      if 121 < (v 2) then
        if (v 2) = 40 then
          if (v 17) < 30 then
            let t51 : Int32 := (v 17) + 1
            match gsX_X9_advance_1 NF (upd v 17 t51) f with
            | (v54, f55) =>
              match stk NF (gsX_X6_expression_37 NF v54 f55) with
              | (r56, v58, f59) =>
                if r56 = 1 then
                  match gsX_X6_taken_1 NF 41 v58 f59 with
                  | (r61, v63, f64) =>
                    if r61 = 1 then
                      (1, v63, f64)
                    else
                      (0, v63, f64)
                else
                  (0, v58, f59)
          else
            match gsX_X6_refuse_1 NF v f with
            | (r66, v68, f69) =>
              if r66 = 1 then
                (1, v68, f69)
              else
                (0, v68, f69)
        else
          match gsX_X6_refuse_1 NF v f with
          | (r45, v47, f48) =>
            if r45 = 1 then
              (1, v47, f48)
            else
              (0, v47, f48)
      else
        if (v 17) < 30 then
          match gsX_X4_add_1 NF (v 2) (v 5) v f with
          | (v73, f74) =>
            let t75 : Int32 := (v73 17) + 1
            match gsX_X9_advance_1 NF (upd v73 17 t75) f74 with
            | (v77, f78) =>
              (1, v77, f78)
        else
          match gsX_X6_refuse_1 NF v f with
          | (r79, v81, f82) =>
            if r79 = 1 then
              (1, v81, f82)
            else
              (0, v81, f82)
theorem gsX_X6_unit_6_q0 {NF : Nat} {v : Nat → Int32} {f : Nat → Nat → Int32} {v4 : Nat → Int32} {f5 : Nat → Nat → Int32} {t6 : Int32} {v8 : Nat → Int32} {f9 : Nat → Nat → Int32} (h0 : ((v 2) = 2)) (h1 : ((v 17) < 30)) (h2 : gsX_X4_add_1 NF (v 2) (v 5) v f = (v4, f5)) (h3 : t6 = (v4 17) + 1) (h4 : gsX_X9_advance_1 NF (upd v4 17 t6) f5 = (v8, f9)) : gsX_X6_unit_6 NF v f = (1, v8, f9) := by
  subst h3
  simp only [gsX_X6_unit_6, stk_eq, if_pos h0, if_pos h1, h2, h4]
theorem gsX_X6_unit_6_q1 {NF : Nat} {v : Nat → Int32} {f : Nat → Nat → Int32} {v12 : Nat → Int32} {f13 : Nat → Nat → Int32} (h0 : ((v 2) = 2)) (h1 : ¬ ((v 17) < 30)) (h2 : gsX_X6_refuse_1 NF v f = (1, v12, f13)) : gsX_X6_unit_6 NF v f = (1, v12, f13) := by
  simp only [gsX_X6_unit_6, stk_eq, if_pos h0, if_neg h1, h2, ite11, ite01, if_true, if_false]
theorem gsX_X6_unit_6_q2 {NF : Nat} {v : Nat → Int32} {f : Nat → Nat → Int32} {v12 : Nat → Int32} {f13 : Nat → Nat → Int32} (h0 : ((v 2) = 2)) (h1 : ¬ ((v 17) < 30)) (h2 : gsX_X6_refuse_1 NF v f = (0, v12, f13)) : gsX_X6_unit_6 NF v f = (0, v12, f13) := by
  simp only [gsX_X6_unit_6, stk_eq, if_pos h0, if_neg h1, h2, ite11, ite01, if_true, if_false]
theorem gsX_X6_unit_6_q3 {NF : Nat} {v : Nat → Int32} {f : Nat → Nat → Int32} {v19 : Nat → Int32} {f20 : Nat → Nat → Int32} (h0 : ¬ ((v 2) = 2)) (h1 : ((v 2) < 116)) (h2 : ¬ ((v 2) = 40)) (h3 : gsX_X6_refuse_1 NF v f = (1, v19, f20)) : gsX_X6_unit_6 NF v f = (1, v19, f20) := by
  simp only [gsX_X6_unit_6, stk_eq, if_neg h0, if_pos h1, if_neg h2, h3, ite11, ite01, if_true, if_false]
theorem gsX_X6_unit_6_q4 {NF : Nat} {v : Nat → Int32} {f : Nat → Nat → Int32} {v19 : Nat → Int32} {f20 : Nat → Nat → Int32} (h0 : ¬ ((v 2) = 2)) (h1 : ((v 2) < 116)) (h2 : ¬ ((v 2) = 40)) (h3 : gsX_X6_refuse_1 NF v f = (0, v19, f20)) : gsX_X6_unit_6 NF v f = (0, v19, f20) := by
  simp only [gsX_X6_unit_6, stk_eq, if_neg h0, if_pos h1, if_neg h2, h3, ite11, ite01, if_true, if_false]
theorem gsX_X6_unit_6_q5 {NF : Nat} {v : Nat → Int32} {f : Nat → Nat → Int32} {t23 : Int32} {v26 : Nat → Int32} {f27 : Nat → Nat → Int32} {v30 : Nat → Int32} {f31 : Nat → Nat → Int32} {v35 : Nat → Int32} {f36 : Nat → Nat → Int32} (h0 : ¬ ((v 2) = 2)) (h1 : ((v 2) < 116)) (h2 : ((v 2) = 40)) (h3 : ((v 17) < 30)) (h4 : t23 = (v 17) + 1) (h5 : gsX_X9_advance_1 NF (upd v 17 t23) f = (v26, f27)) (h6 : gsX_X6_expression_37 NF v26 f27 = (1, v30, f31)) (h8 : gsX_X6_taken_1 NF 41 v30 f31 = (1, v35, f36)) : gsX_X6_unit_6 NF v f = (1, v35, f36) := by
  subst h4
  simp only [gsX_X6_unit_6, stk_eq, if_neg h0, if_pos h1, if_pos h2, if_pos h3, h5, h6, h8, ite11, ite01, if_true, if_false]
theorem gsX_X6_unit_6_q6 {NF : Nat} {v : Nat → Int32} {f : Nat → Nat → Int32} {t23 : Int32} {v26 : Nat → Int32} {f27 : Nat → Nat → Int32} {v30 : Nat → Int32} {f31 : Nat → Nat → Int32} {v35 : Nat → Int32} {f36 : Nat → Nat → Int32} (h0 : ¬ ((v 2) = 2)) (h1 : ((v 2) < 116)) (h2 : ((v 2) = 40)) (h3 : ((v 17) < 30)) (h4 : t23 = (v 17) + 1) (h5 : gsX_X9_advance_1 NF (upd v 17 t23) f = (v26, f27)) (h6 : gsX_X6_expression_37 NF v26 f27 = (1, v30, f31)) (h8 : gsX_X6_taken_1 NF 41 v30 f31 = (0, v35, f36)) : gsX_X6_unit_6 NF v f = (0, v35, f36) := by
  subst h4
  simp only [gsX_X6_unit_6, stk_eq, if_neg h0, if_pos h1, if_pos h2, if_pos h3, h5, h6, h8, ite11, ite01, if_true, if_false]
theorem gsX_X6_unit_6_q7 {NF : Nat} {v : Nat → Int32} {f : Nat → Nat → Int32} {t23 : Int32} {v26 : Nat → Int32} {f27 : Nat → Nat → Int32} {v30 : Nat → Int32} {f31 : Nat → Nat → Int32} (h0 : ¬ ((v 2) = 2)) (h1 : ((v 2) < 116)) (h2 : ((v 2) = 40)) (h3 : ((v 17) < 30)) (h4 : t23 = (v 17) + 1) (h5 : gsX_X9_advance_1 NF (upd v 17 t23) f = (v26, f27)) (h6 : gsX_X6_expression_37 NF v26 f27 = (0, v30, f31)) : gsX_X6_unit_6 NF v f = (0, v30, f31) := by
  subst h4
  simp only [gsX_X6_unit_6, stk_eq, if_neg h0, if_pos h1, if_pos h2, if_pos h3, h5, h6, ite11, ite01, if_true, if_false]
theorem gsX_X6_unit_6_q8 {NF : Nat} {v : Nat → Int32} {f : Nat → Nat → Int32} {v40 : Nat → Int32} {f41 : Nat → Nat → Int32} (h0 : ¬ ((v 2) = 2)) (h1 : ((v 2) < 116)) (h2 : ((v 2) = 40)) (h3 : ¬ ((v 17) < 30)) (h4 : gsX_X6_refuse_1 NF v f = (1, v40, f41)) : gsX_X6_unit_6 NF v f = (1, v40, f41) := by
  simp only [gsX_X6_unit_6, stk_eq, if_neg h0, if_pos h1, if_pos h2, if_neg h3, h4, ite11, ite01, if_true, if_false]
theorem gsX_X6_unit_6_q9 {NF : Nat} {v : Nat → Int32} {f : Nat → Nat → Int32} {v40 : Nat → Int32} {f41 : Nat → Nat → Int32} (h0 : ¬ ((v 2) = 2)) (h1 : ((v 2) < 116)) (h2 : ((v 2) = 40)) (h3 : ¬ ((v 17) < 30)) (h4 : gsX_X6_refuse_1 NF v f = (0, v40, f41)) : gsX_X6_unit_6 NF v f = (0, v40, f41) := by
  simp only [gsX_X6_unit_6, stk_eq, if_neg h0, if_pos h1, if_pos h2, if_neg h3, h4, ite11, ite01, if_true, if_false]
theorem gsX_X6_unit_6_q10 {NF : Nat} {v : Nat → Int32} {f : Nat → Nat → Int32} {v47 : Nat → Int32} {f48 : Nat → Nat → Int32} (h0 : ¬ ((v 2) = 2)) (h1 : ¬ ((v 2) < 116)) (h2 : (121 < (v 2))) (h3 : ¬ ((v 2) = 40)) (h4 : gsX_X6_refuse_1 NF v f = (1, v47, f48)) : gsX_X6_unit_6 NF v f = (1, v47, f48) := by
  simp only [gsX_X6_unit_6, stk_eq, if_neg h0, if_neg h1, if_pos h2, if_neg h3, h4, ite11, ite01, if_true, if_false]
theorem gsX_X6_unit_6_q11 {NF : Nat} {v : Nat → Int32} {f : Nat → Nat → Int32} {v47 : Nat → Int32} {f48 : Nat → Nat → Int32} (h0 : ¬ ((v 2) = 2)) (h1 : ¬ ((v 2) < 116)) (h2 : (121 < (v 2))) (h3 : ¬ ((v 2) = 40)) (h4 : gsX_X6_refuse_1 NF v f = (0, v47, f48)) : gsX_X6_unit_6 NF v f = (0, v47, f48) := by
  simp only [gsX_X6_unit_6, stk_eq, if_neg h0, if_neg h1, if_pos h2, if_neg h3, h4, ite11, ite01, if_true, if_false]
theorem gsX_X6_unit_6_q12 {NF : Nat} {v : Nat → Int32} {f : Nat → Nat → Int32} {t51 : Int32} {v54 : Nat → Int32} {f55 : Nat → Nat → Int32} {v58 : Nat → Int32} {f59 : Nat → Nat → Int32} {v63 : Nat → Int32} {f64 : Nat → Nat → Int32} (h0 : ¬ ((v 2) = 2)) (h1 : ¬ ((v 2) < 116)) (h2 : (121 < (v 2))) (h3 : ((v 2) = 40)) (h4 : ((v 17) < 30)) (h5 : t51 = (v 17) + 1) (h6 : gsX_X9_advance_1 NF (upd v 17 t51) f = (v54, f55)) (h7 : gsX_X6_expression_37 NF v54 f55 = (1, v58, f59)) (h9 : gsX_X6_taken_1 NF 41 v58 f59 = (1, v63, f64)) : gsX_X6_unit_6 NF v f = (1, v63, f64) := by
  subst h5
  simp only [gsX_X6_unit_6, stk_eq, if_neg h0, if_neg h1, if_pos h2, if_pos h3, if_pos h4, h6, h7, h9, ite11, ite01, if_true, if_false]
theorem gsX_X6_unit_6_q13 {NF : Nat} {v : Nat → Int32} {f : Nat → Nat → Int32} {t51 : Int32} {v54 : Nat → Int32} {f55 : Nat → Nat → Int32} {v58 : Nat → Int32} {f59 : Nat → Nat → Int32} {v63 : Nat → Int32} {f64 : Nat → Nat → Int32} (h0 : ¬ ((v 2) = 2)) (h1 : ¬ ((v 2) < 116)) (h2 : (121 < (v 2))) (h3 : ((v 2) = 40)) (h4 : ((v 17) < 30)) (h5 : t51 = (v 17) + 1) (h6 : gsX_X9_advance_1 NF (upd v 17 t51) f = (v54, f55)) (h7 : gsX_X6_expression_37 NF v54 f55 = (1, v58, f59)) (h9 : gsX_X6_taken_1 NF 41 v58 f59 = (0, v63, f64)) : gsX_X6_unit_6 NF v f = (0, v63, f64) := by
  subst h5
  simp only [gsX_X6_unit_6, stk_eq, if_neg h0, if_neg h1, if_pos h2, if_pos h3, if_pos h4, h6, h7, h9, ite11, ite01, if_true, if_false]
theorem gsX_X6_unit_6_q14 {NF : Nat} {v : Nat → Int32} {f : Nat → Nat → Int32} {t51 : Int32} {v54 : Nat → Int32} {f55 : Nat → Nat → Int32} {v58 : Nat → Int32} {f59 : Nat → Nat → Int32} (h0 : ¬ ((v 2) = 2)) (h1 : ¬ ((v 2) < 116)) (h2 : (121 < (v 2))) (h3 : ((v 2) = 40)) (h4 : ((v 17) < 30)) (h5 : t51 = (v 17) + 1) (h6 : gsX_X9_advance_1 NF (upd v 17 t51) f = (v54, f55)) (h7 : gsX_X6_expression_37 NF v54 f55 = (0, v58, f59)) : gsX_X6_unit_6 NF v f = (0, v58, f59) := by
  subst h5
  simp only [gsX_X6_unit_6, stk_eq, if_neg h0, if_neg h1, if_pos h2, if_pos h3, if_pos h4, h6, h7, ite11, ite01, if_true, if_false]
theorem gsX_X6_unit_6_q15 {NF : Nat} {v : Nat → Int32} {f : Nat → Nat → Int32} {v68 : Nat → Int32} {f69 : Nat → Nat → Int32} (h0 : ¬ ((v 2) = 2)) (h1 : ¬ ((v 2) < 116)) (h2 : (121 < (v 2))) (h3 : ((v 2) = 40)) (h4 : ¬ ((v 17) < 30)) (h5 : gsX_X6_refuse_1 NF v f = (1, v68, f69)) : gsX_X6_unit_6 NF v f = (1, v68, f69) := by
  simp only [gsX_X6_unit_6, stk_eq, if_neg h0, if_neg h1, if_pos h2, if_pos h3, if_neg h4, h5, ite11, ite01, if_true, if_false]
theorem gsX_X6_unit_6_q16 {NF : Nat} {v : Nat → Int32} {f : Nat → Nat → Int32} {v68 : Nat → Int32} {f69 : Nat → Nat → Int32} (h0 : ¬ ((v 2) = 2)) (h1 : ¬ ((v 2) < 116)) (h2 : (121 < (v 2))) (h3 : ((v 2) = 40)) (h4 : ¬ ((v 17) < 30)) (h5 : gsX_X6_refuse_1 NF v f = (0, v68, f69)) : gsX_X6_unit_6 NF v f = (0, v68, f69) := by
  simp only [gsX_X6_unit_6, stk_eq, if_neg h0, if_neg h1, if_pos h2, if_pos h3, if_neg h4, h5, ite11, ite01, if_true, if_false]
theorem gsX_X6_unit_6_q17 {NF : Nat} {v : Nat → Int32} {f : Nat → Nat → Int32} {v73 : Nat → Int32} {f74 : Nat → Nat → Int32} {t75 : Int32} {v77 : Nat → Int32} {f78 : Nat → Nat → Int32} (h0 : ¬ ((v 2) = 2)) (h1 : ¬ ((v 2) < 116)) (h2 : ¬ (121 < (v 2))) (h3 : ((v 17) < 30)) (h4 : gsX_X4_add_1 NF (v 2) (v 5) v f = (v73, f74)) (h5 : t75 = (v73 17) + 1) (h6 : gsX_X9_advance_1 NF (upd v73 17 t75) f74 = (v77, f78)) : gsX_X6_unit_6 NF v f = (1, v77, f78) := by
  subst h5
  simp only [gsX_X6_unit_6, stk_eq, if_neg h0, if_neg h1, if_neg h2, if_pos h3, h4, h6]
theorem gsX_X6_unit_6_q18 {NF : Nat} {v : Nat → Int32} {f : Nat → Nat → Int32} {v81 : Nat → Int32} {f82 : Nat → Nat → Int32} (h0 : ¬ ((v 2) = 2)) (h1 : ¬ ((v 2) < 116)) (h2 : ¬ (121 < (v 2))) (h3 : ¬ ((v 17) < 30)) (h4 : gsX_X6_refuse_1 NF v f = (1, v81, f82)) : gsX_X6_unit_6 NF v f = (1, v81, f82) := by
  simp only [gsX_X6_unit_6, stk_eq, if_neg h0, if_neg h1, if_neg h2, if_neg h3, h4, ite11, ite01, if_true, if_false]
theorem gsX_X6_unit_6_q19 {NF : Nat} {v : Nat → Int32} {f : Nat → Nat → Int32} {v81 : Nat → Int32} {f82 : Nat → Nat → Int32} (h0 : ¬ ((v 2) = 2)) (h1 : ¬ ((v 2) < 116)) (h2 : ¬ (121 < (v 2))) (h3 : ¬ ((v 17) < 30)) (h4 : gsX_X6_refuse_1 NF v f = (0, v81, f82)) : gsX_X6_unit_6 NF v f = (0, v81, f82) := by
  simp only [gsX_X6_unit_6, stk_eq, if_neg h0, if_neg h1, if_neg h2, if_neg h3, h4, ite11, ite01, if_true, if_false]
def gsX_X6_expression_36 (NF : Nat) (v : Nat → Int32) (f : Nat → Nat → Int32) : Int32 × (Nat → Int32) × (Nat → Nat → Int32) :=
  match gsX_X6_unit_6 NF v f with
  | (r1, v3, f4) =>
    if r1 = 1 then
      (1, v3, f4)
    else
      (0, v3, f4)
theorem gsX_X6_expression_36_q0 {NF : Nat} {v : Nat → Int32} {f : Nat → Nat → Int32} {v3 : Nat → Int32} {f4 : Nat → Nat → Int32} (h0 : gsX_X6_unit_6 NF v f = (1, v3, f4)) : gsX_X6_expression_36 NF v f = (1, v3, f4) := by
  simp only [gsX_X6_expression_36, h0, ite11, ite01, if_true, if_false]
theorem gsX_X6_expression_36_q1 {NF : Nat} {v : Nat → Int32} {f : Nat → Nat → Int32} {v3 : Nat → Int32} {f4 : Nat → Nat → Int32} (h0 : gsX_X6_unit_6 NF v f = (0, v3, f4)) : gsX_X6_expression_36 NF v f = (0, v3, f4) := by
  simp only [gsX_X6_expression_36, h0, ite11, ite01, if_true, if_false]
def gsX_X6_expression_35_L6 (NF : Nat) : Nat → (Int32) → (Nat → Int32) → (Nat → Nat → Int32) → Int32 × (Nat → Int32) × (Nat → Nat → Int32)
  | 0, _, _, _ => (0, (fun _ => 0), (fun _ _ => 0))
  | n6 + 1, l4_6, v6, f6 =>
    if 1600 ≤ l4_6 then
      (1, v6, f6)
    else
      if gsX_X6_joins_1 NF 4 (v6 2) v6 f6 = 1 then
        match gsX_X9_advance_1 NF v6 f6 with
        | (v12, f13) =>
          match gsX_X6_expression_36 NF v12 f13 with
          | (r14, v16, f17) =>
            if r14 = 1 then
              match gsX_X4_add_1 NF (v6 2) 0 v16 f17 with
              | (v20, f21) =>
                let t22 : Int32 := l4_6 + 1
                gsX_X6_expression_35_L6 NF n6 t22 v20 f21
            else
              (0, v16, f17)
      else
        (1, v6, f6)
def gsX_X6_expression_35 (NF : Nat) (v : Nat → Int32) (f : Nat → Nat → Int32) : Int32 × (Nat → Int32) × (Nat → Nat → Int32) :=
  match gsX_X6_expression_36 NF v f with
  | (r1, v3, f4) =>
    if r1 = 1 then
      gsX_X6_expression_35_L6 NF (4294967296 + NF) 0 v3 f4
    else
      (0, v3, f4)
theorem gsX_X6_expression_35_q4 {NF : Nat} {v : Nat → Int32} {f : Nat → Nat → Int32} {v3 : Nat → Int32} {f4 : Nat → Nat → Int32} (h0 : gsX_X6_expression_36 NF v f = (1, v3, f4)) : gsX_X6_expression_35 NF v f = gsX_X6_expression_35_L6 NF (4294967296 + NF) 0 v3 f4 := by
  simp only [gsX_X6_expression_35, h0, ite11, ite01, if_true, if_false]
theorem gsX_X6_expression_35_q5 {NF : Nat} {v : Nat → Int32} {f : Nat → Nat → Int32} {v3 : Nat → Int32} {f4 : Nat → Nat → Int32} (h0 : gsX_X6_expression_36 NF v f = (0, v3, f4)) : gsX_X6_expression_35 NF v f = (0, v3, f4) := by
  simp only [gsX_X6_expression_35, h0, ite11, ite01, if_true, if_false]
theorem gsX_X6_expression_35_q0 {NF : Nat} {n6 : Nat} {l4_6 : Int32} {v6 : Nat → Int32} {f6 : Nat → Nat → Int32} (h0 : (1600 ≤ l4_6)) : gsX_X6_expression_35_L6 NF (n6 + 1) l4_6 v6 f6 = (1, v6, f6) := by
  simp only [gsX_X6_expression_35_L6, if_pos h0]
theorem gsX_X6_expression_35_q1 {NF : Nat} {n6 : Nat} {l4_6 : Int32} {v6 : Nat → Int32} {f6 : Nat → Nat → Int32} {v12 : Nat → Int32} {f13 : Nat → Nat → Int32} {v16 : Nat → Int32} {f17 : Nat → Nat → Int32} {v20 : Nat → Int32} {f21 : Nat → Nat → Int32} {t22 : Int32} (h0 : ¬ (1600 ≤ l4_6)) (h1 : gsX_X6_joins_1 NF 4 (v6 2) v6 f6 = 1) (h2 : gsX_X9_advance_1 NF v6 f6 = (v12, f13)) (h3 : gsX_X6_expression_36 NF v12 f13 = (1, v16, f17)) (h5 : gsX_X4_add_1 NF (v6 2) 0 v16 f17 = (v20, f21)) (h6 : t22 = l4_6 + 1) : gsX_X6_expression_35_L6 NF (n6 + 1) l4_6 v6 f6 = gsX_X6_expression_35_L6 NF n6 t22 v20 f21 := by
  subst h6
  simp only [gsX_X6_expression_35_L6, if_neg h0, h1, h2, h3, h5, ite11, ite01, if_true, if_false]
theorem gsX_X6_expression_35_q2 {NF : Nat} {n6 : Nat} {l4_6 : Int32} {v6 : Nat → Int32} {f6 : Nat → Nat → Int32} {v12 : Nat → Int32} {f13 : Nat → Nat → Int32} {v16 : Nat → Int32} {f17 : Nat → Nat → Int32} (h0 : ¬ (1600 ≤ l4_6)) (h1 : gsX_X6_joins_1 NF 4 (v6 2) v6 f6 = 1) (h2 : gsX_X9_advance_1 NF v6 f6 = (v12, f13)) (h3 : gsX_X6_expression_36 NF v12 f13 = (0, v16, f17)) : gsX_X6_expression_35_L6 NF (n6 + 1) l4_6 v6 f6 = (0, v16, f17) := by
  simp only [gsX_X6_expression_35_L6, if_neg h0, h1, h2, h3, ite11, ite01, if_true, if_false]
theorem gsX_X6_expression_35_q3 {NF : Nat} {n6 : Nat} {l4_6 : Int32} {v6 : Nat → Int32} {f6 : Nat → Nat → Int32} (h0 : ¬ (1600 ≤ l4_6)) (h1 : gsX_X6_joins_1 NF 4 (v6 2) v6 f6 = 0) : gsX_X6_expression_35_L6 NF (n6 + 1) l4_6 v6 f6 = (1, v6, f6) := by
  simp only [gsX_X6_expression_35_L6, if_neg h0, h1, ite11, ite01, if_true, if_false]
def gsX_X6_expression_34_L6 (NF : Nat) : Nat → (Int32) → (Nat → Int32) → (Nat → Nat → Int32) → Int32 × (Nat → Int32) × (Nat → Nat → Int32)
  | 0, _, _, _ => (0, (fun _ => 0), (fun _ _ => 0))
  | n6 + 1, l4_6, v6, f6 =>
    if 1600 ≤ l4_6 then
      (1, v6, f6)
    else
      if gsX_X6_joins_1 NF 3 (v6 2) v6 f6 = 1 then
        match gsX_X9_advance_1 NF v6 f6 with
        | (v12, f13) =>
          match gsX_X6_expression_35 NF v12 f13 with
          | (r14, v16, f17) =>
            if r14 = 1 then
              match gsX_X4_add_1 NF (v6 2) 0 v16 f17 with
              | (v20, f21) =>
                let t22 : Int32 := l4_6 + 1
                gsX_X6_expression_34_L6 NF n6 t22 v20 f21
            else
              (0, v16, f17)
      else
        (1, v6, f6)
def gsX_X6_expression_34 (NF : Nat) (v : Nat → Int32) (f : Nat → Nat → Int32) : Int32 × (Nat → Int32) × (Nat → Nat → Int32) :=
  match gsX_X6_expression_35 NF v f with
  | (r1, v3, f4) =>
    if r1 = 1 then
      gsX_X6_expression_34_L6 NF (4294967296 + NF) 0 v3 f4
    else
      (0, v3, f4)
theorem gsX_X6_expression_34_q4 {NF : Nat} {v : Nat → Int32} {f : Nat → Nat → Int32} {v3 : Nat → Int32} {f4 : Nat → Nat → Int32} (h0 : gsX_X6_expression_35 NF v f = (1, v3, f4)) : gsX_X6_expression_34 NF v f = gsX_X6_expression_34_L6 NF (4294967296 + NF) 0 v3 f4 := by
  simp only [gsX_X6_expression_34, h0, ite11, ite01, if_true, if_false]
theorem gsX_X6_expression_34_q5 {NF : Nat} {v : Nat → Int32} {f : Nat → Nat → Int32} {v3 : Nat → Int32} {f4 : Nat → Nat → Int32} (h0 : gsX_X6_expression_35 NF v f = (0, v3, f4)) : gsX_X6_expression_34 NF v f = (0, v3, f4) := by
  simp only [gsX_X6_expression_34, h0, ite11, ite01, if_true, if_false]
theorem gsX_X6_expression_34_q0 {NF : Nat} {n6 : Nat} {l4_6 : Int32} {v6 : Nat → Int32} {f6 : Nat → Nat → Int32} (h0 : (1600 ≤ l4_6)) : gsX_X6_expression_34_L6 NF (n6 + 1) l4_6 v6 f6 = (1, v6, f6) := by
  simp only [gsX_X6_expression_34_L6, if_pos h0]
theorem gsX_X6_expression_34_q1 {NF : Nat} {n6 : Nat} {l4_6 : Int32} {v6 : Nat → Int32} {f6 : Nat → Nat → Int32} {v12 : Nat → Int32} {f13 : Nat → Nat → Int32} {v16 : Nat → Int32} {f17 : Nat → Nat → Int32} {v20 : Nat → Int32} {f21 : Nat → Nat → Int32} {t22 : Int32} (h0 : ¬ (1600 ≤ l4_6)) (h1 : gsX_X6_joins_1 NF 3 (v6 2) v6 f6 = 1) (h2 : gsX_X9_advance_1 NF v6 f6 = (v12, f13)) (h3 : gsX_X6_expression_35 NF v12 f13 = (1, v16, f17)) (h5 : gsX_X4_add_1 NF (v6 2) 0 v16 f17 = (v20, f21)) (h6 : t22 = l4_6 + 1) : gsX_X6_expression_34_L6 NF (n6 + 1) l4_6 v6 f6 = gsX_X6_expression_34_L6 NF n6 t22 v20 f21 := by
  subst h6
  simp only [gsX_X6_expression_34_L6, if_neg h0, h1, h2, h3, h5, ite11, ite01, if_true, if_false]
theorem gsX_X6_expression_34_q2 {NF : Nat} {n6 : Nat} {l4_6 : Int32} {v6 : Nat → Int32} {f6 : Nat → Nat → Int32} {v12 : Nat → Int32} {f13 : Nat → Nat → Int32} {v16 : Nat → Int32} {f17 : Nat → Nat → Int32} (h0 : ¬ (1600 ≤ l4_6)) (h1 : gsX_X6_joins_1 NF 3 (v6 2) v6 f6 = 1) (h2 : gsX_X9_advance_1 NF v6 f6 = (v12, f13)) (h3 : gsX_X6_expression_35 NF v12 f13 = (0, v16, f17)) : gsX_X6_expression_34_L6 NF (n6 + 1) l4_6 v6 f6 = (0, v16, f17) := by
  simp only [gsX_X6_expression_34_L6, if_neg h0, h1, h2, h3, ite11, ite01, if_true, if_false]
theorem gsX_X6_expression_34_q3 {NF : Nat} {n6 : Nat} {l4_6 : Int32} {v6 : Nat → Int32} {f6 : Nat → Nat → Int32} (h0 : ¬ (1600 ≤ l4_6)) (h1 : gsX_X6_joins_1 NF 3 (v6 2) v6 f6 = 0) : gsX_X6_expression_34_L6 NF (n6 + 1) l4_6 v6 f6 = (1, v6, f6) := by
  simp only [gsX_X6_expression_34_L6, if_neg h0, h1, ite11, ite01, if_true, if_false]
def gsX_X6_negation_3 (NF : Nat) (v : Nat → Int32) (f : Nat → Nat → Int32) : Int32 × (Nat → Int32) × (Nat → Nat → Int32) :=
  match gsX_X9_advance_1 NF v f with
  | (v2, f3) =>
    match stk NF (gsX_X6_expression_39 NF v2 f3) with
    | (r4, v6, f7) =>
      if r4 = 1 then
        match gsX_X4_add_1 NF 115 0 v6 f7 with
        | (v10, f11) =>
          (1, v10, f11)
      else
        (0, v6, f7)
theorem gsX_X6_negation_3_q0 {NF : Nat} {v : Nat → Int32} {f : Nat → Nat → Int32} {v2 : Nat → Int32} {f3 : Nat → Nat → Int32} {v6 : Nat → Int32} {f7 : Nat → Nat → Int32} {v10 : Nat → Int32} {f11 : Nat → Nat → Int32} (h0 : gsX_X9_advance_1 NF v f = (v2, f3)) (h1 : gsX_X6_expression_39 NF v2 f3 = (1, v6, f7)) (h3 : gsX_X4_add_1 NF 115 0 v6 f7 = (v10, f11)) : gsX_X6_negation_3 NF v f = (1, v10, f11) := by
  simp only [gsX_X6_negation_3, stk_eq, h0, h1, h3, ite11, ite01, if_true, if_false]
theorem gsX_X6_negation_3_q1 {NF : Nat} {v : Nat → Int32} {f : Nat → Nat → Int32} {v2 : Nat → Int32} {f3 : Nat → Nat → Int32} {v6 : Nat → Int32} {f7 : Nat → Nat → Int32} (h0 : gsX_X9_advance_1 NF v f = (v2, f3)) (h1 : gsX_X6_expression_39 NF v2 f3 = (0, v6, f7)) : gsX_X6_negation_3 NF v f = (0, v6, f7) := by
  simp only [gsX_X6_negation_3, stk_eq, h0, h1, ite11, ite01, if_true, if_false]
def gsX_X6_expression_33_L7 (NF : Nat) : Nat → (Int32) → (Nat → Int32) → (Nat → Nat → Int32) → Int32 × (Nat → Int32) × (Nat → Nat → Int32)
  | 0, _, _, _ => (0, (fun _ => 0), (fun _ _ => 0))
  | n7 + 1, l4_7, v7, f7 =>
    if 1 ≤ l4_7 then
      (1, v7, f7)
    else
      if gsX_X6_joins_1 NF 2 (v7 2) v7 f7 = 1 then
        match gsX_X9_advance_1 NF v7 f7 with
        | (v13, f14) =>
          match gsX_X6_expression_34 NF v13 f14 with
          | (r15, v17, f18) =>
            if r15 = 1 then
              match gsX_X4_add_1 NF (v7 2) 0 v17 f18 with
              | (v21, f22) =>
                let t23 : Int32 := l4_7 + 1
                gsX_X6_expression_33_L7 NF n7 t23 v21 f22
            else
              (0, v17, f18)
      else
        (1, v7, f7)
def gsX_X6_expression_33 (NF : Nat) (v : Nat → Int32) (f : Nat → Nat → Int32) : Int32 × (Nat → Int32) × (Nat → Nat → Int32) :=
  if (v 2) = 115 then
    match gsX_X6_negation_3 NF v f with
    | (r26, v28, f29) =>
      if r26 = 1 then
        (1, v28, f29)
      else
        (0, v28, f29)
  else
    match gsX_X6_expression_34 NF v f with
    | (r2, v4, f5) =>
      if r2 = 1 then
        gsX_X6_expression_33_L7 NF (4294967296 + NF) 0 v4 f5
      else
        (0, v4, f5)
theorem gsX_X6_expression_33_q4 {NF : Nat} {v : Nat → Int32} {f : Nat → Nat → Int32} {v4 : Nat → Int32} {f5 : Nat → Nat → Int32} (h0 : ¬ ((v 2) = 115)) (h1 : gsX_X6_expression_34 NF v f = (1, v4, f5)) : gsX_X6_expression_33 NF v f = gsX_X6_expression_33_L7 NF (4294967296 + NF) 0 v4 f5 := by
  simp only [gsX_X6_expression_33, if_neg h0, h1, ite11, ite01, if_true, if_false]
theorem gsX_X6_expression_33_q5 {NF : Nat} {v : Nat → Int32} {f : Nat → Nat → Int32} {v4 : Nat → Int32} {f5 : Nat → Nat → Int32} (h0 : ¬ ((v 2) = 115)) (h1 : gsX_X6_expression_34 NF v f = (0, v4, f5)) : gsX_X6_expression_33 NF v f = (0, v4, f5) := by
  simp only [gsX_X6_expression_33, if_neg h0, h1, ite11, ite01, if_true, if_false]
theorem gsX_X6_expression_33_q6 {NF : Nat} {v : Nat → Int32} {f : Nat → Nat → Int32} {v28 : Nat → Int32} {f29 : Nat → Nat → Int32} (h0 : ((v 2) = 115)) (h1 : gsX_X6_negation_3 NF v f = (1, v28, f29)) : gsX_X6_expression_33 NF v f = (1, v28, f29) := by
  simp only [gsX_X6_expression_33, if_pos h0, h1, ite11, ite01, if_true, if_false]
theorem gsX_X6_expression_33_q7 {NF : Nat} {v : Nat → Int32} {f : Nat → Nat → Int32} {v28 : Nat → Int32} {f29 : Nat → Nat → Int32} (h0 : ((v 2) = 115)) (h1 : gsX_X6_negation_3 NF v f = (0, v28, f29)) : gsX_X6_expression_33 NF v f = (0, v28, f29) := by
  simp only [gsX_X6_expression_33, if_pos h0, h1, ite11, ite01, if_true, if_false]
theorem gsX_X6_expression_33_q0 {NF : Nat} {n7 : Nat} {l4_7 : Int32} {v7 : Nat → Int32} {f7 : Nat → Nat → Int32} (h0 : (1 ≤ l4_7)) : gsX_X6_expression_33_L7 NF (n7 + 1) l4_7 v7 f7 = (1, v7, f7) := by
  simp only [gsX_X6_expression_33_L7, if_pos h0]
theorem gsX_X6_expression_33_q1 {NF : Nat} {n7 : Nat} {l4_7 : Int32} {v7 : Nat → Int32} {f7 : Nat → Nat → Int32} {v13 : Nat → Int32} {f14 : Nat → Nat → Int32} {v17 : Nat → Int32} {f18 : Nat → Nat → Int32} {v21 : Nat → Int32} {f22 : Nat → Nat → Int32} {t23 : Int32} (h0 : ¬ (1 ≤ l4_7)) (h1 : gsX_X6_joins_1 NF 2 (v7 2) v7 f7 = 1) (h2 : gsX_X9_advance_1 NF v7 f7 = (v13, f14)) (h3 : gsX_X6_expression_34 NF v13 f14 = (1, v17, f18)) (h5 : gsX_X4_add_1 NF (v7 2) 0 v17 f18 = (v21, f22)) (h6 : t23 = l4_7 + 1) : gsX_X6_expression_33_L7 NF (n7 + 1) l4_7 v7 f7 = gsX_X6_expression_33_L7 NF n7 t23 v21 f22 := by
  subst h6
  simp only [gsX_X6_expression_33_L7, if_neg h0, h1, h2, h3, h5, ite11, ite01, if_true, if_false]
theorem gsX_X6_expression_33_q2 {NF : Nat} {n7 : Nat} {l4_7 : Int32} {v7 : Nat → Int32} {f7 : Nat → Nat → Int32} {v13 : Nat → Int32} {f14 : Nat → Nat → Int32} {v17 : Nat → Int32} {f18 : Nat → Nat → Int32} (h0 : ¬ (1 ≤ l4_7)) (h1 : gsX_X6_joins_1 NF 2 (v7 2) v7 f7 = 1) (h2 : gsX_X9_advance_1 NF v7 f7 = (v13, f14)) (h3 : gsX_X6_expression_34 NF v13 f14 = (0, v17, f18)) : gsX_X6_expression_33_L7 NF (n7 + 1) l4_7 v7 f7 = (0, v17, f18) := by
  simp only [gsX_X6_expression_33_L7, if_neg h0, h1, h2, h3, ite11, ite01, if_true, if_false]
theorem gsX_X6_expression_33_q3 {NF : Nat} {n7 : Nat} {l4_7 : Int32} {v7 : Nat → Int32} {f7 : Nat → Nat → Int32} (h0 : ¬ (1 ≤ l4_7)) (h1 : gsX_X6_joins_1 NF 2 (v7 2) v7 f7 = 0) : gsX_X6_expression_33_L7 NF (n7 + 1) l4_7 v7 f7 = (1, v7, f7) := by
  simp only [gsX_X6_expression_33_L7, if_neg h0, h1, ite11, ite01, if_true, if_false]
def gsX_X6_expression_32_L6 (NF : Nat) : Nat → (Int32) → (Nat → Int32) → (Nat → Nat → Int32) → Int32 × (Nat → Int32) × (Nat → Nat → Int32)
  | 0, _, _, _ => (0, (fun _ => 0), (fun _ _ => 0))
  | n6 + 1, l4_6, v6, f6 =>
    if 1600 ≤ l4_6 then
      (1, v6, f6)
    else
      if gsX_X6_joins_1 NF 1 (v6 2) v6 f6 = 1 then
        match gsX_X9_advance_1 NF v6 f6 with
        | (v12, f13) =>
          match gsX_X6_expression_33 NF v12 f13 with
          | (r14, v16, f17) =>
            if r14 = 1 then
              match gsX_X4_add_1 NF (v6 2) 0 v16 f17 with
              | (v20, f21) =>
                let t22 : Int32 := l4_6 + 1
                gsX_X6_expression_32_L6 NF n6 t22 v20 f21
            else
              (0, v16, f17)
      else
        (1, v6, f6)
def gsX_X6_expression_32 (NF : Nat) (v : Nat → Int32) (f : Nat → Nat → Int32) : Int32 × (Nat → Int32) × (Nat → Nat → Int32) :=
  match gsX_X6_expression_33 NF v f with
  | (r1, v3, f4) =>
    if r1 = 1 then
      gsX_X6_expression_32_L6 NF (4294967296 + NF) 0 v3 f4
    else
      (0, v3, f4)
theorem gsX_X6_expression_32_q4 {NF : Nat} {v : Nat → Int32} {f : Nat → Nat → Int32} {v3 : Nat → Int32} {f4 : Nat → Nat → Int32} (h0 : gsX_X6_expression_33 NF v f = (1, v3, f4)) : gsX_X6_expression_32 NF v f = gsX_X6_expression_32_L6 NF (4294967296 + NF) 0 v3 f4 := by
  simp only [gsX_X6_expression_32, h0, ite11, ite01, if_true, if_false]
theorem gsX_X6_expression_32_q5 {NF : Nat} {v : Nat → Int32} {f : Nat → Nat → Int32} {v3 : Nat → Int32} {f4 : Nat → Nat → Int32} (h0 : gsX_X6_expression_33 NF v f = (0, v3, f4)) : gsX_X6_expression_32 NF v f = (0, v3, f4) := by
  simp only [gsX_X6_expression_32, h0, ite11, ite01, if_true, if_false]
theorem gsX_X6_expression_32_q0 {NF : Nat} {n6 : Nat} {l4_6 : Int32} {v6 : Nat → Int32} {f6 : Nat → Nat → Int32} (h0 : (1600 ≤ l4_6)) : gsX_X6_expression_32_L6 NF (n6 + 1) l4_6 v6 f6 = (1, v6, f6) := by
  simp only [gsX_X6_expression_32_L6, if_pos h0]
theorem gsX_X6_expression_32_q1 {NF : Nat} {n6 : Nat} {l4_6 : Int32} {v6 : Nat → Int32} {f6 : Nat → Nat → Int32} {v12 : Nat → Int32} {f13 : Nat → Nat → Int32} {v16 : Nat → Int32} {f17 : Nat → Nat → Int32} {v20 : Nat → Int32} {f21 : Nat → Nat → Int32} {t22 : Int32} (h0 : ¬ (1600 ≤ l4_6)) (h1 : gsX_X6_joins_1 NF 1 (v6 2) v6 f6 = 1) (h2 : gsX_X9_advance_1 NF v6 f6 = (v12, f13)) (h3 : gsX_X6_expression_33 NF v12 f13 = (1, v16, f17)) (h5 : gsX_X4_add_1 NF (v6 2) 0 v16 f17 = (v20, f21)) (h6 : t22 = l4_6 + 1) : gsX_X6_expression_32_L6 NF (n6 + 1) l4_6 v6 f6 = gsX_X6_expression_32_L6 NF n6 t22 v20 f21 := by
  subst h6
  simp only [gsX_X6_expression_32_L6, if_neg h0, h1, h2, h3, h5, ite11, ite01, if_true, if_false]
theorem gsX_X6_expression_32_q2 {NF : Nat} {n6 : Nat} {l4_6 : Int32} {v6 : Nat → Int32} {f6 : Nat → Nat → Int32} {v12 : Nat → Int32} {f13 : Nat → Nat → Int32} {v16 : Nat → Int32} {f17 : Nat → Nat → Int32} (h0 : ¬ (1600 ≤ l4_6)) (h1 : gsX_X6_joins_1 NF 1 (v6 2) v6 f6 = 1) (h2 : gsX_X9_advance_1 NF v6 f6 = (v12, f13)) (h3 : gsX_X6_expression_33 NF v12 f13 = (0, v16, f17)) : gsX_X6_expression_32_L6 NF (n6 + 1) l4_6 v6 f6 = (0, v16, f17) := by
  simp only [gsX_X6_expression_32_L6, if_neg h0, h1, h2, h3, ite11, ite01, if_true, if_false]
theorem gsX_X6_expression_32_q3 {NF : Nat} {n6 : Nat} {l4_6 : Int32} {v6 : Nat → Int32} {f6 : Nat → Nat → Int32} (h0 : ¬ (1600 ≤ l4_6)) (h1 : gsX_X6_joins_1 NF 1 (v6 2) v6 f6 = 0) : gsX_X6_expression_32_L6 NF (n6 + 1) l4_6 v6 f6 = (1, v6, f6) := by
  simp only [gsX_X6_expression_32_L6, if_neg h0, h1, ite11, ite01, if_true, if_false]
def gsX_X6_expression_31_L6 (NF : Nat) : Nat → (Int32) → (Nat → Int32) → (Nat → Nat → Int32) → Int32 × (Nat → Int32) × (Nat → Nat → Int32)
  | 0, _, _, _ => (0, (fun _ => 0), (fun _ _ => 0))
  | n6 + 1, l4_6, v6, f6 =>
    if 1600 ≤ l4_6 then
      (1, v6, f6)
    else
      if gsX_X6_joins_1 NF 0 (v6 2) v6 f6 = 1 then
        match gsX_X9_advance_1 NF v6 f6 with
        | (v12, f13) =>
          match gsX_X6_expression_32 NF v12 f13 with
          | (r14, v16, f17) =>
            if r14 = 1 then
              match gsX_X4_add_1 NF (v6 2) 0 v16 f17 with
              | (v20, f21) =>
                let t22 : Int32 := l4_6 + 1
                gsX_X6_expression_31_L6 NF n6 t22 v20 f21
            else
              (0, v16, f17)
      else
        (1, v6, f6)
def gsX_X6_expression_31 (NF : Nat) (v : Nat → Int32) (f : Nat → Nat → Int32) : Int32 × (Nat → Int32) × (Nat → Nat → Int32) :=
  match gsX_X6_expression_32 NF v f with
  | (r1, v3, f4) =>
    if r1 = 1 then
      gsX_X6_expression_31_L6 NF (4294967296 + NF) 0 v3 f4
    else
      (0, v3, f4)
theorem gsX_X6_expression_31_q4 {NF : Nat} {v : Nat → Int32} {f : Nat → Nat → Int32} {v3 : Nat → Int32} {f4 : Nat → Nat → Int32} (h0 : gsX_X6_expression_32 NF v f = (1, v3, f4)) : gsX_X6_expression_31 NF v f = gsX_X6_expression_31_L6 NF (4294967296 + NF) 0 v3 f4 := by
  simp only [gsX_X6_expression_31, h0, ite11, ite01, if_true, if_false]
theorem gsX_X6_expression_31_q5 {NF : Nat} {v : Nat → Int32} {f : Nat → Nat → Int32} {v3 : Nat → Int32} {f4 : Nat → Nat → Int32} (h0 : gsX_X6_expression_32 NF v f = (0, v3, f4)) : gsX_X6_expression_31 NF v f = (0, v3, f4) := by
  simp only [gsX_X6_expression_31, h0, ite11, ite01, if_true, if_false]
theorem gsX_X6_expression_31_q0 {NF : Nat} {n6 : Nat} {l4_6 : Int32} {v6 : Nat → Int32} {f6 : Nat → Nat → Int32} (h0 : (1600 ≤ l4_6)) : gsX_X6_expression_31_L6 NF (n6 + 1) l4_6 v6 f6 = (1, v6, f6) := by
  simp only [gsX_X6_expression_31_L6, if_pos h0]
theorem gsX_X6_expression_31_q1 {NF : Nat} {n6 : Nat} {l4_6 : Int32} {v6 : Nat → Int32} {f6 : Nat → Nat → Int32} {v12 : Nat → Int32} {f13 : Nat → Nat → Int32} {v16 : Nat → Int32} {f17 : Nat → Nat → Int32} {v20 : Nat → Int32} {f21 : Nat → Nat → Int32} {t22 : Int32} (h0 : ¬ (1600 ≤ l4_6)) (h1 : gsX_X6_joins_1 NF 0 (v6 2) v6 f6 = 1) (h2 : gsX_X9_advance_1 NF v6 f6 = (v12, f13)) (h3 : gsX_X6_expression_32 NF v12 f13 = (1, v16, f17)) (h5 : gsX_X4_add_1 NF (v6 2) 0 v16 f17 = (v20, f21)) (h6 : t22 = l4_6 + 1) : gsX_X6_expression_31_L6 NF (n6 + 1) l4_6 v6 f6 = gsX_X6_expression_31_L6 NF n6 t22 v20 f21 := by
  subst h6
  simp only [gsX_X6_expression_31_L6, if_neg h0, h1, h2, h3, h5, ite11, ite01, if_true, if_false]
theorem gsX_X6_expression_31_q2 {NF : Nat} {n6 : Nat} {l4_6 : Int32} {v6 : Nat → Int32} {f6 : Nat → Nat → Int32} {v12 : Nat → Int32} {f13 : Nat → Nat → Int32} {v16 : Nat → Int32} {f17 : Nat → Nat → Int32} (h0 : ¬ (1600 ≤ l4_6)) (h1 : gsX_X6_joins_1 NF 0 (v6 2) v6 f6 = 1) (h2 : gsX_X9_advance_1 NF v6 f6 = (v12, f13)) (h3 : gsX_X6_expression_32 NF v12 f13 = (0, v16, f17)) : gsX_X6_expression_31_L6 NF (n6 + 1) l4_6 v6 f6 = (0, v16, f17) := by
  simp only [gsX_X6_expression_31_L6, if_neg h0, h1, h2, h3, ite11, ite01, if_true, if_false]
theorem gsX_X6_expression_31_q3 {NF : Nat} {n6 : Nat} {l4_6 : Int32} {v6 : Nat → Int32} {f6 : Nat → Nat → Int32} (h0 : ¬ (1600 ≤ l4_6)) (h1 : gsX_X6_joins_1 NF 0 (v6 2) v6 f6 = 0) : gsX_X6_expression_31_L6 NF (n6 + 1) l4_6 v6 f6 = (1, v6, f6) := by
  simp only [gsX_X6_expression_31_L6, if_neg h0, h1, ite11, ite01, if_true, if_false]
def gsX_X6_unit_5 (NF : Nat) (v : Nat → Int32) (f : Nat → Nat → Int32) : Int32 × (Nat → Int32) × (Nat → Nat → Int32) :=
  if (v 2) = 2 then
    if (v 17) < 30 then
      match gsX_X4_add_1 NF (v 2) (v 5) v f with
      | (v4, f5) =>
        let t6 : Int32 := (v4 17) + 1
        match gsX_X9_advance_1 NF (upd v4 17 t6) f5 with
        | (v8, f9) =>
          (1, v8, f9)
    else
      match gsX_X6_refuse_1 NF v f with
      | (r10, v12, f13) =>
        if r10 = 1 then
          (1, v12, f13)
        else
          (0, v12, f13)
  else
    if (v 2) < 116 then
      if (v 2) = 40 then
        if (v 17) < 30 then
          let t23 : Int32 := (v 17) + 1
          match gsX_X9_advance_1 NF (upd v 17 t23) f with
          | (v26, f27) =>
            match stk NF (gsX_X6_expression_31 NF v26 f27) with
            | (r28, v30, f31) =>
              if r28 = 1 then
                match gsX_X6_taken_1 NF 41 v30 f31 with
                | (r33, v35, f36) =>
                  if r33 = 1 then
                    (1, v35, f36)
                  else
                    (0, v35, f36)
              else
                (0, v30, f31)
        else
          match gsX_X6_refuse_1 NF v f with
          | (r38, v40, f41) =>
            if r38 = 1 then
              (1, v40, f41)
            else
              (0, v40, f41)
      else
        match gsX_X6_refuse_1 NF v f with
        | (r17, v19, f20) =>
          if r17 = 1 then
            (1, v19, f20)
          else
            (0, v19, f20)
    else
      if 121 < (v 2) then
        if (v 2) = 40 then
          if (v 17) < 30 then
            let t51 : Int32 := (v 17) + 1
            match gsX_X9_advance_1 NF (upd v 17 t51) f with
            | (v54, f55) =>
              match stk NF (gsX_X6_expression_31 NF v54 f55) with
              | (r56, v58, f59) =>
                if r56 = 1 then
                  match gsX_X6_taken_1 NF 41 v58 f59 with
                  | (r61, v63, f64) =>
                    if r61 = 1 then
                      (1, v63, f64)
                    else
                      (0, v63, f64)
                else
                  (0, v58, f59)
          else
            match gsX_X6_refuse_1 NF v f with
            | (r66, v68, f69) =>
              if r66 = 1 then
                (1, v68, f69)
              else
                (0, v68, f69)
        else
          match gsX_X6_refuse_1 NF v f with
          | (r45, v47, f48) =>
            if r45 = 1 then
              (1, v47, f48)
            else
              (0, v47, f48)
      else
        if (v 17) < 30 then
          match gsX_X4_add_1 NF (v 2) (v 5) v f with
          | (v73, f74) =>
            let t75 : Int32 := (v73 17) + 1
            match gsX_X9_advance_1 NF (upd v73 17 t75) f74 with
            | (v77, f78) =>
              (1, v77, f78)
        else
          match gsX_X6_refuse_1 NF v f with
          | (r79, v81, f82) =>
            if r79 = 1 then
              (1, v81, f82)
            else
              (0, v81, f82)
theorem gsX_X6_unit_5_q0 {NF : Nat} {v : Nat → Int32} {f : Nat → Nat → Int32} {v4 : Nat → Int32} {f5 : Nat → Nat → Int32} {t6 : Int32} {v8 : Nat → Int32} {f9 : Nat → Nat → Int32} (h0 : ((v 2) = 2)) (h1 : ((v 17) < 30)) (h2 : gsX_X4_add_1 NF (v 2) (v 5) v f = (v4, f5)) (h3 : t6 = (v4 17) + 1) (h4 : gsX_X9_advance_1 NF (upd v4 17 t6) f5 = (v8, f9)) : gsX_X6_unit_5 NF v f = (1, v8, f9) := by
  subst h3
  simp only [gsX_X6_unit_5, stk_eq, if_pos h0, if_pos h1, h2, h4]
theorem gsX_X6_unit_5_q1 {NF : Nat} {v : Nat → Int32} {f : Nat → Nat → Int32} {v12 : Nat → Int32} {f13 : Nat → Nat → Int32} (h0 : ((v 2) = 2)) (h1 : ¬ ((v 17) < 30)) (h2 : gsX_X6_refuse_1 NF v f = (1, v12, f13)) : gsX_X6_unit_5 NF v f = (1, v12, f13) := by
  simp only [gsX_X6_unit_5, stk_eq, if_pos h0, if_neg h1, h2, ite11, ite01, if_true, if_false]
theorem gsX_X6_unit_5_q2 {NF : Nat} {v : Nat → Int32} {f : Nat → Nat → Int32} {v12 : Nat → Int32} {f13 : Nat → Nat → Int32} (h0 : ((v 2) = 2)) (h1 : ¬ ((v 17) < 30)) (h2 : gsX_X6_refuse_1 NF v f = (0, v12, f13)) : gsX_X6_unit_5 NF v f = (0, v12, f13) := by
  simp only [gsX_X6_unit_5, stk_eq, if_pos h0, if_neg h1, h2, ite11, ite01, if_true, if_false]
theorem gsX_X6_unit_5_q3 {NF : Nat} {v : Nat → Int32} {f : Nat → Nat → Int32} {v19 : Nat → Int32} {f20 : Nat → Nat → Int32} (h0 : ¬ ((v 2) = 2)) (h1 : ((v 2) < 116)) (h2 : ¬ ((v 2) = 40)) (h3 : gsX_X6_refuse_1 NF v f = (1, v19, f20)) : gsX_X6_unit_5 NF v f = (1, v19, f20) := by
  simp only [gsX_X6_unit_5, stk_eq, if_neg h0, if_pos h1, if_neg h2, h3, ite11, ite01, if_true, if_false]
theorem gsX_X6_unit_5_q4 {NF : Nat} {v : Nat → Int32} {f : Nat → Nat → Int32} {v19 : Nat → Int32} {f20 : Nat → Nat → Int32} (h0 : ¬ ((v 2) = 2)) (h1 : ((v 2) < 116)) (h2 : ¬ ((v 2) = 40)) (h3 : gsX_X6_refuse_1 NF v f = (0, v19, f20)) : gsX_X6_unit_5 NF v f = (0, v19, f20) := by
  simp only [gsX_X6_unit_5, stk_eq, if_neg h0, if_pos h1, if_neg h2, h3, ite11, ite01, if_true, if_false]
theorem gsX_X6_unit_5_q5 {NF : Nat} {v : Nat → Int32} {f : Nat → Nat → Int32} {t23 : Int32} {v26 : Nat → Int32} {f27 : Nat → Nat → Int32} {v30 : Nat → Int32} {f31 : Nat → Nat → Int32} {v35 : Nat → Int32} {f36 : Nat → Nat → Int32} (h0 : ¬ ((v 2) = 2)) (h1 : ((v 2) < 116)) (h2 : ((v 2) = 40)) (h3 : ((v 17) < 30)) (h4 : t23 = (v 17) + 1) (h5 : gsX_X9_advance_1 NF (upd v 17 t23) f = (v26, f27)) (h6 : gsX_X6_expression_31 NF v26 f27 = (1, v30, f31)) (h8 : gsX_X6_taken_1 NF 41 v30 f31 = (1, v35, f36)) : gsX_X6_unit_5 NF v f = (1, v35, f36) := by
  subst h4
  simp only [gsX_X6_unit_5, stk_eq, if_neg h0, if_pos h1, if_pos h2, if_pos h3, h5, h6, h8, ite11, ite01, if_true, if_false]
theorem gsX_X6_unit_5_q6 {NF : Nat} {v : Nat → Int32} {f : Nat → Nat → Int32} {t23 : Int32} {v26 : Nat → Int32} {f27 : Nat → Nat → Int32} {v30 : Nat → Int32} {f31 : Nat → Nat → Int32} {v35 : Nat → Int32} {f36 : Nat → Nat → Int32} (h0 : ¬ ((v 2) = 2)) (h1 : ((v 2) < 116)) (h2 : ((v 2) = 40)) (h3 : ((v 17) < 30)) (h4 : t23 = (v 17) + 1) (h5 : gsX_X9_advance_1 NF (upd v 17 t23) f = (v26, f27)) (h6 : gsX_X6_expression_31 NF v26 f27 = (1, v30, f31)) (h8 : gsX_X6_taken_1 NF 41 v30 f31 = (0, v35, f36)) : gsX_X6_unit_5 NF v f = (0, v35, f36) := by
  subst h4
  simp only [gsX_X6_unit_5, stk_eq, if_neg h0, if_pos h1, if_pos h2, if_pos h3, h5, h6, h8, ite11, ite01, if_true, if_false]
theorem gsX_X6_unit_5_q7 {NF : Nat} {v : Nat → Int32} {f : Nat → Nat → Int32} {t23 : Int32} {v26 : Nat → Int32} {f27 : Nat → Nat → Int32} {v30 : Nat → Int32} {f31 : Nat → Nat → Int32} (h0 : ¬ ((v 2) = 2)) (h1 : ((v 2) < 116)) (h2 : ((v 2) = 40)) (h3 : ((v 17) < 30)) (h4 : t23 = (v 17) + 1) (h5 : gsX_X9_advance_1 NF (upd v 17 t23) f = (v26, f27)) (h6 : gsX_X6_expression_31 NF v26 f27 = (0, v30, f31)) : gsX_X6_unit_5 NF v f = (0, v30, f31) := by
  subst h4
  simp only [gsX_X6_unit_5, stk_eq, if_neg h0, if_pos h1, if_pos h2, if_pos h3, h5, h6, ite11, ite01, if_true, if_false]
theorem gsX_X6_unit_5_q8 {NF : Nat} {v : Nat → Int32} {f : Nat → Nat → Int32} {v40 : Nat → Int32} {f41 : Nat → Nat → Int32} (h0 : ¬ ((v 2) = 2)) (h1 : ((v 2) < 116)) (h2 : ((v 2) = 40)) (h3 : ¬ ((v 17) < 30)) (h4 : gsX_X6_refuse_1 NF v f = (1, v40, f41)) : gsX_X6_unit_5 NF v f = (1, v40, f41) := by
  simp only [gsX_X6_unit_5, stk_eq, if_neg h0, if_pos h1, if_pos h2, if_neg h3, h4, ite11, ite01, if_true, if_false]
theorem gsX_X6_unit_5_q9 {NF : Nat} {v : Nat → Int32} {f : Nat → Nat → Int32} {v40 : Nat → Int32} {f41 : Nat → Nat → Int32} (h0 : ¬ ((v 2) = 2)) (h1 : ((v 2) < 116)) (h2 : ((v 2) = 40)) (h3 : ¬ ((v 17) < 30)) (h4 : gsX_X6_refuse_1 NF v f = (0, v40, f41)) : gsX_X6_unit_5 NF v f = (0, v40, f41) := by
  simp only [gsX_X6_unit_5, stk_eq, if_neg h0, if_pos h1, if_pos h2, if_neg h3, h4, ite11, ite01, if_true, if_false]
theorem gsX_X6_unit_5_q10 {NF : Nat} {v : Nat → Int32} {f : Nat → Nat → Int32} {v47 : Nat → Int32} {f48 : Nat → Nat → Int32} (h0 : ¬ ((v 2) = 2)) (h1 : ¬ ((v 2) < 116)) (h2 : (121 < (v 2))) (h3 : ¬ ((v 2) = 40)) (h4 : gsX_X6_refuse_1 NF v f = (1, v47, f48)) : gsX_X6_unit_5 NF v f = (1, v47, f48) := by
  simp only [gsX_X6_unit_5, stk_eq, if_neg h0, if_neg h1, if_pos h2, if_neg h3, h4, ite11, ite01, if_true, if_false]
theorem gsX_X6_unit_5_q11 {NF : Nat} {v : Nat → Int32} {f : Nat → Nat → Int32} {v47 : Nat → Int32} {f48 : Nat → Nat → Int32} (h0 : ¬ ((v 2) = 2)) (h1 : ¬ ((v 2) < 116)) (h2 : (121 < (v 2))) (h3 : ¬ ((v 2) = 40)) (h4 : gsX_X6_refuse_1 NF v f = (0, v47, f48)) : gsX_X6_unit_5 NF v f = (0, v47, f48) := by
  simp only [gsX_X6_unit_5, stk_eq, if_neg h0, if_neg h1, if_pos h2, if_neg h3, h4, ite11, ite01, if_true, if_false]
theorem gsX_X6_unit_5_q12 {NF : Nat} {v : Nat → Int32} {f : Nat → Nat → Int32} {t51 : Int32} {v54 : Nat → Int32} {f55 : Nat → Nat → Int32} {v58 : Nat → Int32} {f59 : Nat → Nat → Int32} {v63 : Nat → Int32} {f64 : Nat → Nat → Int32} (h0 : ¬ ((v 2) = 2)) (h1 : ¬ ((v 2) < 116)) (h2 : (121 < (v 2))) (h3 : ((v 2) = 40)) (h4 : ((v 17) < 30)) (h5 : t51 = (v 17) + 1) (h6 : gsX_X9_advance_1 NF (upd v 17 t51) f = (v54, f55)) (h7 : gsX_X6_expression_31 NF v54 f55 = (1, v58, f59)) (h9 : gsX_X6_taken_1 NF 41 v58 f59 = (1, v63, f64)) : gsX_X6_unit_5 NF v f = (1, v63, f64) := by
  subst h5
  simp only [gsX_X6_unit_5, stk_eq, if_neg h0, if_neg h1, if_pos h2, if_pos h3, if_pos h4, h6, h7, h9, ite11, ite01, if_true, if_false]
theorem gsX_X6_unit_5_q13 {NF : Nat} {v : Nat → Int32} {f : Nat → Nat → Int32} {t51 : Int32} {v54 : Nat → Int32} {f55 : Nat → Nat → Int32} {v58 : Nat → Int32} {f59 : Nat → Nat → Int32} {v63 : Nat → Int32} {f64 : Nat → Nat → Int32} (h0 : ¬ ((v 2) = 2)) (h1 : ¬ ((v 2) < 116)) (h2 : (121 < (v 2))) (h3 : ((v 2) = 40)) (h4 : ((v 17) < 30)) (h5 : t51 = (v 17) + 1) (h6 : gsX_X9_advance_1 NF (upd v 17 t51) f = (v54, f55)) (h7 : gsX_X6_expression_31 NF v54 f55 = (1, v58, f59)) (h9 : gsX_X6_taken_1 NF 41 v58 f59 = (0, v63, f64)) : gsX_X6_unit_5 NF v f = (0, v63, f64) := by
  subst h5
  simp only [gsX_X6_unit_5, stk_eq, if_neg h0, if_neg h1, if_pos h2, if_pos h3, if_pos h4, h6, h7, h9, ite11, ite01, if_true, if_false]
theorem gsX_X6_unit_5_q14 {NF : Nat} {v : Nat → Int32} {f : Nat → Nat → Int32} {t51 : Int32} {v54 : Nat → Int32} {f55 : Nat → Nat → Int32} {v58 : Nat → Int32} {f59 : Nat → Nat → Int32} (h0 : ¬ ((v 2) = 2)) (h1 : ¬ ((v 2) < 116)) (h2 : (121 < (v 2))) (h3 : ((v 2) = 40)) (h4 : ((v 17) < 30)) (h5 : t51 = (v 17) + 1) (h6 : gsX_X9_advance_1 NF (upd v 17 t51) f = (v54, f55)) (h7 : gsX_X6_expression_31 NF v54 f55 = (0, v58, f59)) : gsX_X6_unit_5 NF v f = (0, v58, f59) := by
  subst h5
  simp only [gsX_X6_unit_5, stk_eq, if_neg h0, if_neg h1, if_pos h2, if_pos h3, if_pos h4, h6, h7, ite11, ite01, if_true, if_false]
theorem gsX_X6_unit_5_q15 {NF : Nat} {v : Nat → Int32} {f : Nat → Nat → Int32} {v68 : Nat → Int32} {f69 : Nat → Nat → Int32} (h0 : ¬ ((v 2) = 2)) (h1 : ¬ ((v 2) < 116)) (h2 : (121 < (v 2))) (h3 : ((v 2) = 40)) (h4 : ¬ ((v 17) < 30)) (h5 : gsX_X6_refuse_1 NF v f = (1, v68, f69)) : gsX_X6_unit_5 NF v f = (1, v68, f69) := by
  simp only [gsX_X6_unit_5, stk_eq, if_neg h0, if_neg h1, if_pos h2, if_pos h3, if_neg h4, h5, ite11, ite01, if_true, if_false]
theorem gsX_X6_unit_5_q16 {NF : Nat} {v : Nat → Int32} {f : Nat → Nat → Int32} {v68 : Nat → Int32} {f69 : Nat → Nat → Int32} (h0 : ¬ ((v 2) = 2)) (h1 : ¬ ((v 2) < 116)) (h2 : (121 < (v 2))) (h3 : ((v 2) = 40)) (h4 : ¬ ((v 17) < 30)) (h5 : gsX_X6_refuse_1 NF v f = (0, v68, f69)) : gsX_X6_unit_5 NF v f = (0, v68, f69) := by
  simp only [gsX_X6_unit_5, stk_eq, if_neg h0, if_neg h1, if_pos h2, if_pos h3, if_neg h4, h5, ite11, ite01, if_true, if_false]
theorem gsX_X6_unit_5_q17 {NF : Nat} {v : Nat → Int32} {f : Nat → Nat → Int32} {v73 : Nat → Int32} {f74 : Nat → Nat → Int32} {t75 : Int32} {v77 : Nat → Int32} {f78 : Nat → Nat → Int32} (h0 : ¬ ((v 2) = 2)) (h1 : ¬ ((v 2) < 116)) (h2 : ¬ (121 < (v 2))) (h3 : ((v 17) < 30)) (h4 : gsX_X4_add_1 NF (v 2) (v 5) v f = (v73, f74)) (h5 : t75 = (v73 17) + 1) (h6 : gsX_X9_advance_1 NF (upd v73 17 t75) f74 = (v77, f78)) : gsX_X6_unit_5 NF v f = (1, v77, f78) := by
  subst h5
  simp only [gsX_X6_unit_5, stk_eq, if_neg h0, if_neg h1, if_neg h2, if_pos h3, h4, h6]
theorem gsX_X6_unit_5_q18 {NF : Nat} {v : Nat → Int32} {f : Nat → Nat → Int32} {v81 : Nat → Int32} {f82 : Nat → Nat → Int32} (h0 : ¬ ((v 2) = 2)) (h1 : ¬ ((v 2) < 116)) (h2 : ¬ (121 < (v 2))) (h3 : ¬ ((v 17) < 30)) (h4 : gsX_X6_refuse_1 NF v f = (1, v81, f82)) : gsX_X6_unit_5 NF v f = (1, v81, f82) := by
  simp only [gsX_X6_unit_5, stk_eq, if_neg h0, if_neg h1, if_neg h2, if_neg h3, h4, ite11, ite01, if_true, if_false]
theorem gsX_X6_unit_5_q19 {NF : Nat} {v : Nat → Int32} {f : Nat → Nat → Int32} {v81 : Nat → Int32} {f82 : Nat → Nat → Int32} (h0 : ¬ ((v 2) = 2)) (h1 : ¬ ((v 2) < 116)) (h2 : ¬ (121 < (v 2))) (h3 : ¬ ((v 17) < 30)) (h4 : gsX_X6_refuse_1 NF v f = (0, v81, f82)) : gsX_X6_unit_5 NF v f = (0, v81, f82) := by
  simp only [gsX_X6_unit_5, stk_eq, if_neg h0, if_neg h1, if_neg h2, if_neg h3, h4, ite11, ite01, if_true, if_false]
def gsX_X6_expression_30 (NF : Nat) (v : Nat → Int32) (f : Nat → Nat → Int32) : Int32 × (Nat → Int32) × (Nat → Nat → Int32) :=
  match gsX_X6_unit_5 NF v f with
  | (r1, v3, f4) =>
    if r1 = 1 then
      (1, v3, f4)
    else
      (0, v3, f4)
theorem gsX_X6_expression_30_q0 {NF : Nat} {v : Nat → Int32} {f : Nat → Nat → Int32} {v3 : Nat → Int32} {f4 : Nat → Nat → Int32} (h0 : gsX_X6_unit_5 NF v f = (1, v3, f4)) : gsX_X6_expression_30 NF v f = (1, v3, f4) := by
  simp only [gsX_X6_expression_30, h0, ite11, ite01, if_true, if_false]
theorem gsX_X6_expression_30_q1 {NF : Nat} {v : Nat → Int32} {f : Nat → Nat → Int32} {v3 : Nat → Int32} {f4 : Nat → Nat → Int32} (h0 : gsX_X6_unit_5 NF v f = (0, v3, f4)) : gsX_X6_expression_30 NF v f = (0, v3, f4) := by
  simp only [gsX_X6_expression_30, h0, ite11, ite01, if_true, if_false]
def gsX_X6_expression_29_L6 (NF : Nat) : Nat → (Int32) → (Nat → Int32) → (Nat → Nat → Int32) → Int32 × (Nat → Int32) × (Nat → Nat → Int32)
  | 0, _, _, _ => (0, (fun _ => 0), (fun _ _ => 0))
  | n6 + 1, l4_6, v6, f6 =>
    if 1600 ≤ l4_6 then
      (1, v6, f6)
    else
      if gsX_X6_joins_1 NF 4 (v6 2) v6 f6 = 1 then
        match gsX_X9_advance_1 NF v6 f6 with
        | (v12, f13) =>
          match gsX_X6_expression_30 NF v12 f13 with
          | (r14, v16, f17) =>
            if r14 = 1 then
              match gsX_X4_add_1 NF (v6 2) 0 v16 f17 with
              | (v20, f21) =>
                let t22 : Int32 := l4_6 + 1
                gsX_X6_expression_29_L6 NF n6 t22 v20 f21
            else
              (0, v16, f17)
      else
        (1, v6, f6)
def gsX_X6_expression_29 (NF : Nat) (v : Nat → Int32) (f : Nat → Nat → Int32) : Int32 × (Nat → Int32) × (Nat → Nat → Int32) :=
  match gsX_X6_expression_30 NF v f with
  | (r1, v3, f4) =>
    if r1 = 1 then
      gsX_X6_expression_29_L6 NF (4294967296 + NF) 0 v3 f4
    else
      (0, v3, f4)
theorem gsX_X6_expression_29_q4 {NF : Nat} {v : Nat → Int32} {f : Nat → Nat → Int32} {v3 : Nat → Int32} {f4 : Nat → Nat → Int32} (h0 : gsX_X6_expression_30 NF v f = (1, v3, f4)) : gsX_X6_expression_29 NF v f = gsX_X6_expression_29_L6 NF (4294967296 + NF) 0 v3 f4 := by
  simp only [gsX_X6_expression_29, h0, ite11, ite01, if_true, if_false]
theorem gsX_X6_expression_29_q5 {NF : Nat} {v : Nat → Int32} {f : Nat → Nat → Int32} {v3 : Nat → Int32} {f4 : Nat → Nat → Int32} (h0 : gsX_X6_expression_30 NF v f = (0, v3, f4)) : gsX_X6_expression_29 NF v f = (0, v3, f4) := by
  simp only [gsX_X6_expression_29, h0, ite11, ite01, if_true, if_false]
theorem gsX_X6_expression_29_q0 {NF : Nat} {n6 : Nat} {l4_6 : Int32} {v6 : Nat → Int32} {f6 : Nat → Nat → Int32} (h0 : (1600 ≤ l4_6)) : gsX_X6_expression_29_L6 NF (n6 + 1) l4_6 v6 f6 = (1, v6, f6) := by
  simp only [gsX_X6_expression_29_L6, if_pos h0]
theorem gsX_X6_expression_29_q1 {NF : Nat} {n6 : Nat} {l4_6 : Int32} {v6 : Nat → Int32} {f6 : Nat → Nat → Int32} {v12 : Nat → Int32} {f13 : Nat → Nat → Int32} {v16 : Nat → Int32} {f17 : Nat → Nat → Int32} {v20 : Nat → Int32} {f21 : Nat → Nat → Int32} {t22 : Int32} (h0 : ¬ (1600 ≤ l4_6)) (h1 : gsX_X6_joins_1 NF 4 (v6 2) v6 f6 = 1) (h2 : gsX_X9_advance_1 NF v6 f6 = (v12, f13)) (h3 : gsX_X6_expression_30 NF v12 f13 = (1, v16, f17)) (h5 : gsX_X4_add_1 NF (v6 2) 0 v16 f17 = (v20, f21)) (h6 : t22 = l4_6 + 1) : gsX_X6_expression_29_L6 NF (n6 + 1) l4_6 v6 f6 = gsX_X6_expression_29_L6 NF n6 t22 v20 f21 := by
  subst h6
  simp only [gsX_X6_expression_29_L6, if_neg h0, h1, h2, h3, h5, ite11, ite01, if_true, if_false]
theorem gsX_X6_expression_29_q2 {NF : Nat} {n6 : Nat} {l4_6 : Int32} {v6 : Nat → Int32} {f6 : Nat → Nat → Int32} {v12 : Nat → Int32} {f13 : Nat → Nat → Int32} {v16 : Nat → Int32} {f17 : Nat → Nat → Int32} (h0 : ¬ (1600 ≤ l4_6)) (h1 : gsX_X6_joins_1 NF 4 (v6 2) v6 f6 = 1) (h2 : gsX_X9_advance_1 NF v6 f6 = (v12, f13)) (h3 : gsX_X6_expression_30 NF v12 f13 = (0, v16, f17)) : gsX_X6_expression_29_L6 NF (n6 + 1) l4_6 v6 f6 = (0, v16, f17) := by
  simp only [gsX_X6_expression_29_L6, if_neg h0, h1, h2, h3, ite11, ite01, if_true, if_false]
theorem gsX_X6_expression_29_q3 {NF : Nat} {n6 : Nat} {l4_6 : Int32} {v6 : Nat → Int32} {f6 : Nat → Nat → Int32} (h0 : ¬ (1600 ≤ l4_6)) (h1 : gsX_X6_joins_1 NF 4 (v6 2) v6 f6 = 0) : gsX_X6_expression_29_L6 NF (n6 + 1) l4_6 v6 f6 = (1, v6, f6) := by
  simp only [gsX_X6_expression_29_L6, if_neg h0, h1, ite11, ite01, if_true, if_false]
def gsX_X6_expression_28_L6 (NF : Nat) : Nat → (Int32) → (Nat → Int32) → (Nat → Nat → Int32) → Int32 × (Nat → Int32) × (Nat → Nat → Int32)
  | 0, _, _, _ => (0, (fun _ => 0), (fun _ _ => 0))
  | n6 + 1, l4_6, v6, f6 =>
    if 1600 ≤ l4_6 then
      (1, v6, f6)
    else
      if gsX_X6_joins_1 NF 3 (v6 2) v6 f6 = 1 then
        match gsX_X9_advance_1 NF v6 f6 with
        | (v12, f13) =>
          match gsX_X6_expression_29 NF v12 f13 with
          | (r14, v16, f17) =>
            if r14 = 1 then
              match gsX_X4_add_1 NF (v6 2) 0 v16 f17 with
              | (v20, f21) =>
                let t22 : Int32 := l4_6 + 1
                gsX_X6_expression_28_L6 NF n6 t22 v20 f21
            else
              (0, v16, f17)
      else
        (1, v6, f6)
def gsX_X6_expression_28 (NF : Nat) (v : Nat → Int32) (f : Nat → Nat → Int32) : Int32 × (Nat → Int32) × (Nat → Nat → Int32) :=
  match gsX_X6_expression_29 NF v f with
  | (r1, v3, f4) =>
    if r1 = 1 then
      gsX_X6_expression_28_L6 NF (4294967296 + NF) 0 v3 f4
    else
      (0, v3, f4)
theorem gsX_X6_expression_28_q4 {NF : Nat} {v : Nat → Int32} {f : Nat → Nat → Int32} {v3 : Nat → Int32} {f4 : Nat → Nat → Int32} (h0 : gsX_X6_expression_29 NF v f = (1, v3, f4)) : gsX_X6_expression_28 NF v f = gsX_X6_expression_28_L6 NF (4294967296 + NF) 0 v3 f4 := by
  simp only [gsX_X6_expression_28, h0, ite11, ite01, if_true, if_false]
theorem gsX_X6_expression_28_q5 {NF : Nat} {v : Nat → Int32} {f : Nat → Nat → Int32} {v3 : Nat → Int32} {f4 : Nat → Nat → Int32} (h0 : gsX_X6_expression_29 NF v f = (0, v3, f4)) : gsX_X6_expression_28 NF v f = (0, v3, f4) := by
  simp only [gsX_X6_expression_28, h0, ite11, ite01, if_true, if_false]
theorem gsX_X6_expression_28_q0 {NF : Nat} {n6 : Nat} {l4_6 : Int32} {v6 : Nat → Int32} {f6 : Nat → Nat → Int32} (h0 : (1600 ≤ l4_6)) : gsX_X6_expression_28_L6 NF (n6 + 1) l4_6 v6 f6 = (1, v6, f6) := by
  simp only [gsX_X6_expression_28_L6, if_pos h0]
theorem gsX_X6_expression_28_q1 {NF : Nat} {n6 : Nat} {l4_6 : Int32} {v6 : Nat → Int32} {f6 : Nat → Nat → Int32} {v12 : Nat → Int32} {f13 : Nat → Nat → Int32} {v16 : Nat → Int32} {f17 : Nat → Nat → Int32} {v20 : Nat → Int32} {f21 : Nat → Nat → Int32} {t22 : Int32} (h0 : ¬ (1600 ≤ l4_6)) (h1 : gsX_X6_joins_1 NF 3 (v6 2) v6 f6 = 1) (h2 : gsX_X9_advance_1 NF v6 f6 = (v12, f13)) (h3 : gsX_X6_expression_29 NF v12 f13 = (1, v16, f17)) (h5 : gsX_X4_add_1 NF (v6 2) 0 v16 f17 = (v20, f21)) (h6 : t22 = l4_6 + 1) : gsX_X6_expression_28_L6 NF (n6 + 1) l4_6 v6 f6 = gsX_X6_expression_28_L6 NF n6 t22 v20 f21 := by
  subst h6
  simp only [gsX_X6_expression_28_L6, if_neg h0, h1, h2, h3, h5, ite11, ite01, if_true, if_false]
theorem gsX_X6_expression_28_q2 {NF : Nat} {n6 : Nat} {l4_6 : Int32} {v6 : Nat → Int32} {f6 : Nat → Nat → Int32} {v12 : Nat → Int32} {f13 : Nat → Nat → Int32} {v16 : Nat → Int32} {f17 : Nat → Nat → Int32} (h0 : ¬ (1600 ≤ l4_6)) (h1 : gsX_X6_joins_1 NF 3 (v6 2) v6 f6 = 1) (h2 : gsX_X9_advance_1 NF v6 f6 = (v12, f13)) (h3 : gsX_X6_expression_29 NF v12 f13 = (0, v16, f17)) : gsX_X6_expression_28_L6 NF (n6 + 1) l4_6 v6 f6 = (0, v16, f17) := by
  simp only [gsX_X6_expression_28_L6, if_neg h0, h1, h2, h3, ite11, ite01, if_true, if_false]
theorem gsX_X6_expression_28_q3 {NF : Nat} {n6 : Nat} {l4_6 : Int32} {v6 : Nat → Int32} {f6 : Nat → Nat → Int32} (h0 : ¬ (1600 ≤ l4_6)) (h1 : gsX_X6_joins_1 NF 3 (v6 2) v6 f6 = 0) : gsX_X6_expression_28_L6 NF (n6 + 1) l4_6 v6 f6 = (1, v6, f6) := by
  simp only [gsX_X6_expression_28_L6, if_neg h0, h1, ite11, ite01, if_true, if_false]
def gsX_X6_negation_4 (NF : Nat) (v : Nat → Int32) (f : Nat → Nat → Int32) : Int32 × (Nat → Int32) × (Nat → Nat → Int32) :=
  match gsX_X9_advance_1 NF v f with
  | (v2, f3) =>
    match stk NF (gsX_X6_expression_33 NF v2 f3) with
    | (r4, v6, f7) =>
      if r4 = 1 then
        match gsX_X4_add_1 NF 115 0 v6 f7 with
        | (v10, f11) =>
          (1, v10, f11)
      else
        (0, v6, f7)
theorem gsX_X6_negation_4_q0 {NF : Nat} {v : Nat → Int32} {f : Nat → Nat → Int32} {v2 : Nat → Int32} {f3 : Nat → Nat → Int32} {v6 : Nat → Int32} {f7 : Nat → Nat → Int32} {v10 : Nat → Int32} {f11 : Nat → Nat → Int32} (h0 : gsX_X9_advance_1 NF v f = (v2, f3)) (h1 : gsX_X6_expression_33 NF v2 f3 = (1, v6, f7)) (h3 : gsX_X4_add_1 NF 115 0 v6 f7 = (v10, f11)) : gsX_X6_negation_4 NF v f = (1, v10, f11) := by
  simp only [gsX_X6_negation_4, stk_eq, h0, h1, h3, ite11, ite01, if_true, if_false]
theorem gsX_X6_negation_4_q1 {NF : Nat} {v : Nat → Int32} {f : Nat → Nat → Int32} {v2 : Nat → Int32} {f3 : Nat → Nat → Int32} {v6 : Nat → Int32} {f7 : Nat → Nat → Int32} (h0 : gsX_X9_advance_1 NF v f = (v2, f3)) (h1 : gsX_X6_expression_33 NF v2 f3 = (0, v6, f7)) : gsX_X6_negation_4 NF v f = (0, v6, f7) := by
  simp only [gsX_X6_negation_4, stk_eq, h0, h1, ite11, ite01, if_true, if_false]
def gsX_X6_expression_27_L7 (NF : Nat) : Nat → (Int32) → (Nat → Int32) → (Nat → Nat → Int32) → Int32 × (Nat → Int32) × (Nat → Nat → Int32)
  | 0, _, _, _ => (0, (fun _ => 0), (fun _ _ => 0))
  | n7 + 1, l4_7, v7, f7 =>
    if 1 ≤ l4_7 then
      (1, v7, f7)
    else
      if gsX_X6_joins_1 NF 2 (v7 2) v7 f7 = 1 then
        match gsX_X9_advance_1 NF v7 f7 with
        | (v13, f14) =>
          match gsX_X6_expression_28 NF v13 f14 with
          | (r15, v17, f18) =>
            if r15 = 1 then
              match gsX_X4_add_1 NF (v7 2) 0 v17 f18 with
              | (v21, f22) =>
                let t23 : Int32 := l4_7 + 1
                gsX_X6_expression_27_L7 NF n7 t23 v21 f22
            else
              (0, v17, f18)
      else
        (1, v7, f7)
def gsX_X6_expression_27 (NF : Nat) (v : Nat → Int32) (f : Nat → Nat → Int32) : Int32 × (Nat → Int32) × (Nat → Nat → Int32) :=
  if (v 2) = 115 then
    match gsX_X6_negation_4 NF v f with
    | (r26, v28, f29) =>
      if r26 = 1 then
        (1, v28, f29)
      else
        (0, v28, f29)
  else
    match gsX_X6_expression_28 NF v f with
    | (r2, v4, f5) =>
      if r2 = 1 then
        gsX_X6_expression_27_L7 NF (4294967296 + NF) 0 v4 f5
      else
        (0, v4, f5)
theorem gsX_X6_expression_27_q4 {NF : Nat} {v : Nat → Int32} {f : Nat → Nat → Int32} {v4 : Nat → Int32} {f5 : Nat → Nat → Int32} (h0 : ¬ ((v 2) = 115)) (h1 : gsX_X6_expression_28 NF v f = (1, v4, f5)) : gsX_X6_expression_27 NF v f = gsX_X6_expression_27_L7 NF (4294967296 + NF) 0 v4 f5 := by
  simp only [gsX_X6_expression_27, if_neg h0, h1, ite11, ite01, if_true, if_false]
theorem gsX_X6_expression_27_q5 {NF : Nat} {v : Nat → Int32} {f : Nat → Nat → Int32} {v4 : Nat → Int32} {f5 : Nat → Nat → Int32} (h0 : ¬ ((v 2) = 115)) (h1 : gsX_X6_expression_28 NF v f = (0, v4, f5)) : gsX_X6_expression_27 NF v f = (0, v4, f5) := by
  simp only [gsX_X6_expression_27, if_neg h0, h1, ite11, ite01, if_true, if_false]
theorem gsX_X6_expression_27_q6 {NF : Nat} {v : Nat → Int32} {f : Nat → Nat → Int32} {v28 : Nat → Int32} {f29 : Nat → Nat → Int32} (h0 : ((v 2) = 115)) (h1 : gsX_X6_negation_4 NF v f = (1, v28, f29)) : gsX_X6_expression_27 NF v f = (1, v28, f29) := by
  simp only [gsX_X6_expression_27, if_pos h0, h1, ite11, ite01, if_true, if_false]
theorem gsX_X6_expression_27_q7 {NF : Nat} {v : Nat → Int32} {f : Nat → Nat → Int32} {v28 : Nat → Int32} {f29 : Nat → Nat → Int32} (h0 : ((v 2) = 115)) (h1 : gsX_X6_negation_4 NF v f = (0, v28, f29)) : gsX_X6_expression_27 NF v f = (0, v28, f29) := by
  simp only [gsX_X6_expression_27, if_pos h0, h1, ite11, ite01, if_true, if_false]
theorem gsX_X6_expression_27_q0 {NF : Nat} {n7 : Nat} {l4_7 : Int32} {v7 : Nat → Int32} {f7 : Nat → Nat → Int32} (h0 : (1 ≤ l4_7)) : gsX_X6_expression_27_L7 NF (n7 + 1) l4_7 v7 f7 = (1, v7, f7) := by
  simp only [gsX_X6_expression_27_L7, if_pos h0]
theorem gsX_X6_expression_27_q1 {NF : Nat} {n7 : Nat} {l4_7 : Int32} {v7 : Nat → Int32} {f7 : Nat → Nat → Int32} {v13 : Nat → Int32} {f14 : Nat → Nat → Int32} {v17 : Nat → Int32} {f18 : Nat → Nat → Int32} {v21 : Nat → Int32} {f22 : Nat → Nat → Int32} {t23 : Int32} (h0 : ¬ (1 ≤ l4_7)) (h1 : gsX_X6_joins_1 NF 2 (v7 2) v7 f7 = 1) (h2 : gsX_X9_advance_1 NF v7 f7 = (v13, f14)) (h3 : gsX_X6_expression_28 NF v13 f14 = (1, v17, f18)) (h5 : gsX_X4_add_1 NF (v7 2) 0 v17 f18 = (v21, f22)) (h6 : t23 = l4_7 + 1) : gsX_X6_expression_27_L7 NF (n7 + 1) l4_7 v7 f7 = gsX_X6_expression_27_L7 NF n7 t23 v21 f22 := by
  subst h6
  simp only [gsX_X6_expression_27_L7, if_neg h0, h1, h2, h3, h5, ite11, ite01, if_true, if_false]
theorem gsX_X6_expression_27_q2 {NF : Nat} {n7 : Nat} {l4_7 : Int32} {v7 : Nat → Int32} {f7 : Nat → Nat → Int32} {v13 : Nat → Int32} {f14 : Nat → Nat → Int32} {v17 : Nat → Int32} {f18 : Nat → Nat → Int32} (h0 : ¬ (1 ≤ l4_7)) (h1 : gsX_X6_joins_1 NF 2 (v7 2) v7 f7 = 1) (h2 : gsX_X9_advance_1 NF v7 f7 = (v13, f14)) (h3 : gsX_X6_expression_28 NF v13 f14 = (0, v17, f18)) : gsX_X6_expression_27_L7 NF (n7 + 1) l4_7 v7 f7 = (0, v17, f18) := by
  simp only [gsX_X6_expression_27_L7, if_neg h0, h1, h2, h3, ite11, ite01, if_true, if_false]
theorem gsX_X6_expression_27_q3 {NF : Nat} {n7 : Nat} {l4_7 : Int32} {v7 : Nat → Int32} {f7 : Nat → Nat → Int32} (h0 : ¬ (1 ≤ l4_7)) (h1 : gsX_X6_joins_1 NF 2 (v7 2) v7 f7 = 0) : gsX_X6_expression_27_L7 NF (n7 + 1) l4_7 v7 f7 = (1, v7, f7) := by
  simp only [gsX_X6_expression_27_L7, if_neg h0, h1, ite11, ite01, if_true, if_false]
def gsX_X6_expression_26_L6 (NF : Nat) : Nat → (Int32) → (Nat → Int32) → (Nat → Nat → Int32) → Int32 × (Nat → Int32) × (Nat → Nat → Int32)
  | 0, _, _, _ => (0, (fun _ => 0), (fun _ _ => 0))
  | n6 + 1, l4_6, v6, f6 =>
    if 1600 ≤ l4_6 then
      (1, v6, f6)
    else
      if gsX_X6_joins_1 NF 1 (v6 2) v6 f6 = 1 then
        match gsX_X9_advance_1 NF v6 f6 with
        | (v12, f13) =>
          match gsX_X6_expression_27 NF v12 f13 with
          | (r14, v16, f17) =>
            if r14 = 1 then
              match gsX_X4_add_1 NF (v6 2) 0 v16 f17 with
              | (v20, f21) =>
                let t22 : Int32 := l4_6 + 1
                gsX_X6_expression_26_L6 NF n6 t22 v20 f21
            else
              (0, v16, f17)
      else
        (1, v6, f6)
def gsX_X6_expression_26 (NF : Nat) (v : Nat → Int32) (f : Nat → Nat → Int32) : Int32 × (Nat → Int32) × (Nat → Nat → Int32) :=
  match gsX_X6_expression_27 NF v f with
  | (r1, v3, f4) =>
    if r1 = 1 then
      gsX_X6_expression_26_L6 NF (4294967296 + NF) 0 v3 f4
    else
      (0, v3, f4)
theorem gsX_X6_expression_26_q4 {NF : Nat} {v : Nat → Int32} {f : Nat → Nat → Int32} {v3 : Nat → Int32} {f4 : Nat → Nat → Int32} (h0 : gsX_X6_expression_27 NF v f = (1, v3, f4)) : gsX_X6_expression_26 NF v f = gsX_X6_expression_26_L6 NF (4294967296 + NF) 0 v3 f4 := by
  simp only [gsX_X6_expression_26, h0, ite11, ite01, if_true, if_false]
theorem gsX_X6_expression_26_q5 {NF : Nat} {v : Nat → Int32} {f : Nat → Nat → Int32} {v3 : Nat → Int32} {f4 : Nat → Nat → Int32} (h0 : gsX_X6_expression_27 NF v f = (0, v3, f4)) : gsX_X6_expression_26 NF v f = (0, v3, f4) := by
  simp only [gsX_X6_expression_26, h0, ite11, ite01, if_true, if_false]
theorem gsX_X6_expression_26_q0 {NF : Nat} {n6 : Nat} {l4_6 : Int32} {v6 : Nat → Int32} {f6 : Nat → Nat → Int32} (h0 : (1600 ≤ l4_6)) : gsX_X6_expression_26_L6 NF (n6 + 1) l4_6 v6 f6 = (1, v6, f6) := by
  simp only [gsX_X6_expression_26_L6, if_pos h0]
theorem gsX_X6_expression_26_q1 {NF : Nat} {n6 : Nat} {l4_6 : Int32} {v6 : Nat → Int32} {f6 : Nat → Nat → Int32} {v12 : Nat → Int32} {f13 : Nat → Nat → Int32} {v16 : Nat → Int32} {f17 : Nat → Nat → Int32} {v20 : Nat → Int32} {f21 : Nat → Nat → Int32} {t22 : Int32} (h0 : ¬ (1600 ≤ l4_6)) (h1 : gsX_X6_joins_1 NF 1 (v6 2) v6 f6 = 1) (h2 : gsX_X9_advance_1 NF v6 f6 = (v12, f13)) (h3 : gsX_X6_expression_27 NF v12 f13 = (1, v16, f17)) (h5 : gsX_X4_add_1 NF (v6 2) 0 v16 f17 = (v20, f21)) (h6 : t22 = l4_6 + 1) : gsX_X6_expression_26_L6 NF (n6 + 1) l4_6 v6 f6 = gsX_X6_expression_26_L6 NF n6 t22 v20 f21 := by
  subst h6
  simp only [gsX_X6_expression_26_L6, if_neg h0, h1, h2, h3, h5, ite11, ite01, if_true, if_false]
theorem gsX_X6_expression_26_q2 {NF : Nat} {n6 : Nat} {l4_6 : Int32} {v6 : Nat → Int32} {f6 : Nat → Nat → Int32} {v12 : Nat → Int32} {f13 : Nat → Nat → Int32} {v16 : Nat → Int32} {f17 : Nat → Nat → Int32} (h0 : ¬ (1600 ≤ l4_6)) (h1 : gsX_X6_joins_1 NF 1 (v6 2) v6 f6 = 1) (h2 : gsX_X9_advance_1 NF v6 f6 = (v12, f13)) (h3 : gsX_X6_expression_27 NF v12 f13 = (0, v16, f17)) : gsX_X6_expression_26_L6 NF (n6 + 1) l4_6 v6 f6 = (0, v16, f17) := by
  simp only [gsX_X6_expression_26_L6, if_neg h0, h1, h2, h3, ite11, ite01, if_true, if_false]
theorem gsX_X6_expression_26_q3 {NF : Nat} {n6 : Nat} {l4_6 : Int32} {v6 : Nat → Int32} {f6 : Nat → Nat → Int32} (h0 : ¬ (1600 ≤ l4_6)) (h1 : gsX_X6_joins_1 NF 1 (v6 2) v6 f6 = 0) : gsX_X6_expression_26_L6 NF (n6 + 1) l4_6 v6 f6 = (1, v6, f6) := by
  simp only [gsX_X6_expression_26_L6, if_neg h0, h1, ite11, ite01, if_true, if_false]
def gsX_X6_expression_25_L6 (NF : Nat) : Nat → (Int32) → (Nat → Int32) → (Nat → Nat → Int32) → Int32 × (Nat → Int32) × (Nat → Nat → Int32)
  | 0, _, _, _ => (0, (fun _ => 0), (fun _ _ => 0))
  | n6 + 1, l4_6, v6, f6 =>
    if 1600 ≤ l4_6 then
      (1, v6, f6)
    else
      if gsX_X6_joins_1 NF 0 (v6 2) v6 f6 = 1 then
        match gsX_X9_advance_1 NF v6 f6 with
        | (v12, f13) =>
          match gsX_X6_expression_26 NF v12 f13 with
          | (r14, v16, f17) =>
            if r14 = 1 then
              match gsX_X4_add_1 NF (v6 2) 0 v16 f17 with
              | (v20, f21) =>
                let t22 : Int32 := l4_6 + 1
                gsX_X6_expression_25_L6 NF n6 t22 v20 f21
            else
              (0, v16, f17)
      else
        (1, v6, f6)
def gsX_X6_expression_25 (NF : Nat) (v : Nat → Int32) (f : Nat → Nat → Int32) : Int32 × (Nat → Int32) × (Nat → Nat → Int32) :=
  match gsX_X6_expression_26 NF v f with
  | (r1, v3, f4) =>
    if r1 = 1 then
      gsX_X6_expression_25_L6 NF (4294967296 + NF) 0 v3 f4
    else
      (0, v3, f4)
theorem gsX_X6_expression_25_q4 {NF : Nat} {v : Nat → Int32} {f : Nat → Nat → Int32} {v3 : Nat → Int32} {f4 : Nat → Nat → Int32} (h0 : gsX_X6_expression_26 NF v f = (1, v3, f4)) : gsX_X6_expression_25 NF v f = gsX_X6_expression_25_L6 NF (4294967296 + NF) 0 v3 f4 := by
  simp only [gsX_X6_expression_25, h0, ite11, ite01, if_true, if_false]
theorem gsX_X6_expression_25_q5 {NF : Nat} {v : Nat → Int32} {f : Nat → Nat → Int32} {v3 : Nat → Int32} {f4 : Nat → Nat → Int32} (h0 : gsX_X6_expression_26 NF v f = (0, v3, f4)) : gsX_X6_expression_25 NF v f = (0, v3, f4) := by
  simp only [gsX_X6_expression_25, h0, ite11, ite01, if_true, if_false]
theorem gsX_X6_expression_25_q0 {NF : Nat} {n6 : Nat} {l4_6 : Int32} {v6 : Nat → Int32} {f6 : Nat → Nat → Int32} (h0 : (1600 ≤ l4_6)) : gsX_X6_expression_25_L6 NF (n6 + 1) l4_6 v6 f6 = (1, v6, f6) := by
  simp only [gsX_X6_expression_25_L6, if_pos h0]
theorem gsX_X6_expression_25_q1 {NF : Nat} {n6 : Nat} {l4_6 : Int32} {v6 : Nat → Int32} {f6 : Nat → Nat → Int32} {v12 : Nat → Int32} {f13 : Nat → Nat → Int32} {v16 : Nat → Int32} {f17 : Nat → Nat → Int32} {v20 : Nat → Int32} {f21 : Nat → Nat → Int32} {t22 : Int32} (h0 : ¬ (1600 ≤ l4_6)) (h1 : gsX_X6_joins_1 NF 0 (v6 2) v6 f6 = 1) (h2 : gsX_X9_advance_1 NF v6 f6 = (v12, f13)) (h3 : gsX_X6_expression_26 NF v12 f13 = (1, v16, f17)) (h5 : gsX_X4_add_1 NF (v6 2) 0 v16 f17 = (v20, f21)) (h6 : t22 = l4_6 + 1) : gsX_X6_expression_25_L6 NF (n6 + 1) l4_6 v6 f6 = gsX_X6_expression_25_L6 NF n6 t22 v20 f21 := by
  subst h6
  simp only [gsX_X6_expression_25_L6, if_neg h0, h1, h2, h3, h5, ite11, ite01, if_true, if_false]
theorem gsX_X6_expression_25_q2 {NF : Nat} {n6 : Nat} {l4_6 : Int32} {v6 : Nat → Int32} {f6 : Nat → Nat → Int32} {v12 : Nat → Int32} {f13 : Nat → Nat → Int32} {v16 : Nat → Int32} {f17 : Nat → Nat → Int32} (h0 : ¬ (1600 ≤ l4_6)) (h1 : gsX_X6_joins_1 NF 0 (v6 2) v6 f6 = 1) (h2 : gsX_X9_advance_1 NF v6 f6 = (v12, f13)) (h3 : gsX_X6_expression_26 NF v12 f13 = (0, v16, f17)) : gsX_X6_expression_25_L6 NF (n6 + 1) l4_6 v6 f6 = (0, v16, f17) := by
  simp only [gsX_X6_expression_25_L6, if_neg h0, h1, h2, h3, ite11, ite01, if_true, if_false]
theorem gsX_X6_expression_25_q3 {NF : Nat} {n6 : Nat} {l4_6 : Int32} {v6 : Nat → Int32} {f6 : Nat → Nat → Int32} (h0 : ¬ (1600 ≤ l4_6)) (h1 : gsX_X6_joins_1 NF 0 (v6 2) v6 f6 = 0) : gsX_X6_expression_25_L6 NF (n6 + 1) l4_6 v6 f6 = (1, v6, f6) := by
  simp only [gsX_X6_expression_25_L6, if_neg h0, h1, ite11, ite01, if_true, if_false]
def gsX_X6_unit_4 (NF : Nat) (v : Nat → Int32) (f : Nat → Nat → Int32) : Int32 × (Nat → Int32) × (Nat → Nat → Int32) :=
  if (v 2) = 2 then
    if (v 17) < 30 then
      match gsX_X4_add_1 NF (v 2) (v 5) v f with
      | (v4, f5) =>
        let t6 : Int32 := (v4 17) + 1
        match gsX_X9_advance_1 NF (upd v4 17 t6) f5 with
        | (v8, f9) =>
          (1, v8, f9)
    else
      match gsX_X6_refuse_1 NF v f with
      | (r10, v12, f13) =>
        if r10 = 1 then
          (1, v12, f13)
        else
          (0, v12, f13)
  else
    if (v 2) < 116 then
      if (v 2) = 40 then
        if (v 17) < 30 then
          let t23 : Int32 := (v 17) + 1
          match gsX_X9_advance_1 NF (upd v 17 t23) f with
          | (v26, f27) =>
            match stk NF (gsX_X6_expression_25 NF v26 f27) with
            | (r28, v30, f31) =>
              if r28 = 1 then
                match gsX_X6_taken_1 NF 41 v30 f31 with
                | (r33, v35, f36) =>
                  if r33 = 1 then
                    (1, v35, f36)
                  else
                    (0, v35, f36)
              else
                (0, v30, f31)
        else
          match gsX_X6_refuse_1 NF v f with
          | (r38, v40, f41) =>
            if r38 = 1 then
              (1, v40, f41)
            else
              (0, v40, f41)
      else
        match gsX_X6_refuse_1 NF v f with
        | (r17, v19, f20) =>
          if r17 = 1 then
            (1, v19, f20)
          else
            (0, v19, f20)
    else
      if 121 < (v 2) then
        if (v 2) = 40 then
          if (v 17) < 30 then
            let t51 : Int32 := (v 17) + 1
            match gsX_X9_advance_1 NF (upd v 17 t51) f with
            | (v54, f55) =>
              match stk NF (gsX_X6_expression_25 NF v54 f55) with
              | (r56, v58, f59) =>
                if r56 = 1 then
                  match gsX_X6_taken_1 NF 41 v58 f59 with
                  | (r61, v63, f64) =>
                    if r61 = 1 then
                      (1, v63, f64)
                    else
                      (0, v63, f64)
                else
                  (0, v58, f59)
          else
            match gsX_X6_refuse_1 NF v f with
            | (r66, v68, f69) =>
              if r66 = 1 then
                (1, v68, f69)
              else
                (0, v68, f69)
        else
          match gsX_X6_refuse_1 NF v f with
          | (r45, v47, f48) =>
            if r45 = 1 then
              (1, v47, f48)
            else
              (0, v47, f48)
      else
        if (v 17) < 30 then
          match gsX_X4_add_1 NF (v 2) (v 5) v f with
          | (v73, f74) =>
            let t75 : Int32 := (v73 17) + 1
            match gsX_X9_advance_1 NF (upd v73 17 t75) f74 with
            | (v77, f78) =>
              (1, v77, f78)
        else
          match gsX_X6_refuse_1 NF v f with
          | (r79, v81, f82) =>
            if r79 = 1 then
              (1, v81, f82)
            else
              (0, v81, f82)
theorem gsX_X6_unit_4_q0 {NF : Nat} {v : Nat → Int32} {f : Nat → Nat → Int32} {v4 : Nat → Int32} {f5 : Nat → Nat → Int32} {t6 : Int32} {v8 : Nat → Int32} {f9 : Nat → Nat → Int32} (h0 : ((v 2) = 2)) (h1 : ((v 17) < 30)) (h2 : gsX_X4_add_1 NF (v 2) (v 5) v f = (v4, f5)) (h3 : t6 = (v4 17) + 1) (h4 : gsX_X9_advance_1 NF (upd v4 17 t6) f5 = (v8, f9)) : gsX_X6_unit_4 NF v f = (1, v8, f9) := by
  subst h3
  simp only [gsX_X6_unit_4, stk_eq, if_pos h0, if_pos h1, h2, h4]
theorem gsX_X6_unit_4_q1 {NF : Nat} {v : Nat → Int32} {f : Nat → Nat → Int32} {v12 : Nat → Int32} {f13 : Nat → Nat → Int32} (h0 : ((v 2) = 2)) (h1 : ¬ ((v 17) < 30)) (h2 : gsX_X6_refuse_1 NF v f = (1, v12, f13)) : gsX_X6_unit_4 NF v f = (1, v12, f13) := by
  simp only [gsX_X6_unit_4, stk_eq, if_pos h0, if_neg h1, h2, ite11, ite01, if_true, if_false]
theorem gsX_X6_unit_4_q2 {NF : Nat} {v : Nat → Int32} {f : Nat → Nat → Int32} {v12 : Nat → Int32} {f13 : Nat → Nat → Int32} (h0 : ((v 2) = 2)) (h1 : ¬ ((v 17) < 30)) (h2 : gsX_X6_refuse_1 NF v f = (0, v12, f13)) : gsX_X6_unit_4 NF v f = (0, v12, f13) := by
  simp only [gsX_X6_unit_4, stk_eq, if_pos h0, if_neg h1, h2, ite11, ite01, if_true, if_false]
theorem gsX_X6_unit_4_q3 {NF : Nat} {v : Nat → Int32} {f : Nat → Nat → Int32} {v19 : Nat → Int32} {f20 : Nat → Nat → Int32} (h0 : ¬ ((v 2) = 2)) (h1 : ((v 2) < 116)) (h2 : ¬ ((v 2) = 40)) (h3 : gsX_X6_refuse_1 NF v f = (1, v19, f20)) : gsX_X6_unit_4 NF v f = (1, v19, f20) := by
  simp only [gsX_X6_unit_4, stk_eq, if_neg h0, if_pos h1, if_neg h2, h3, ite11, ite01, if_true, if_false]
theorem gsX_X6_unit_4_q4 {NF : Nat} {v : Nat → Int32} {f : Nat → Nat → Int32} {v19 : Nat → Int32} {f20 : Nat → Nat → Int32} (h0 : ¬ ((v 2) = 2)) (h1 : ((v 2) < 116)) (h2 : ¬ ((v 2) = 40)) (h3 : gsX_X6_refuse_1 NF v f = (0, v19, f20)) : gsX_X6_unit_4 NF v f = (0, v19, f20) := by
  simp only [gsX_X6_unit_4, stk_eq, if_neg h0, if_pos h1, if_neg h2, h3, ite11, ite01, if_true, if_false]
theorem gsX_X6_unit_4_q5 {NF : Nat} {v : Nat → Int32} {f : Nat → Nat → Int32} {t23 : Int32} {v26 : Nat → Int32} {f27 : Nat → Nat → Int32} {v30 : Nat → Int32} {f31 : Nat → Nat → Int32} {v35 : Nat → Int32} {f36 : Nat → Nat → Int32} (h0 : ¬ ((v 2) = 2)) (h1 : ((v 2) < 116)) (h2 : ((v 2) = 40)) (h3 : ((v 17) < 30)) (h4 : t23 = (v 17) + 1) (h5 : gsX_X9_advance_1 NF (upd v 17 t23) f = (v26, f27)) (h6 : gsX_X6_expression_25 NF v26 f27 = (1, v30, f31)) (h8 : gsX_X6_taken_1 NF 41 v30 f31 = (1, v35, f36)) : gsX_X6_unit_4 NF v f = (1, v35, f36) := by
  subst h4
  simp only [gsX_X6_unit_4, stk_eq, if_neg h0, if_pos h1, if_pos h2, if_pos h3, h5, h6, h8, ite11, ite01, if_true, if_false]
theorem gsX_X6_unit_4_q6 {NF : Nat} {v : Nat → Int32} {f : Nat → Nat → Int32} {t23 : Int32} {v26 : Nat → Int32} {f27 : Nat → Nat → Int32} {v30 : Nat → Int32} {f31 : Nat → Nat → Int32} {v35 : Nat → Int32} {f36 : Nat → Nat → Int32} (h0 : ¬ ((v 2) = 2)) (h1 : ((v 2) < 116)) (h2 : ((v 2) = 40)) (h3 : ((v 17) < 30)) (h4 : t23 = (v 17) + 1) (h5 : gsX_X9_advance_1 NF (upd v 17 t23) f = (v26, f27)) (h6 : gsX_X6_expression_25 NF v26 f27 = (1, v30, f31)) (h8 : gsX_X6_taken_1 NF 41 v30 f31 = (0, v35, f36)) : gsX_X6_unit_4 NF v f = (0, v35, f36) := by
  subst h4
  simp only [gsX_X6_unit_4, stk_eq, if_neg h0, if_pos h1, if_pos h2, if_pos h3, h5, h6, h8, ite11, ite01, if_true, if_false]
theorem gsX_X6_unit_4_q7 {NF : Nat} {v : Nat → Int32} {f : Nat → Nat → Int32} {t23 : Int32} {v26 : Nat → Int32} {f27 : Nat → Nat → Int32} {v30 : Nat → Int32} {f31 : Nat → Nat → Int32} (h0 : ¬ ((v 2) = 2)) (h1 : ((v 2) < 116)) (h2 : ((v 2) = 40)) (h3 : ((v 17) < 30)) (h4 : t23 = (v 17) + 1) (h5 : gsX_X9_advance_1 NF (upd v 17 t23) f = (v26, f27)) (h6 : gsX_X6_expression_25 NF v26 f27 = (0, v30, f31)) : gsX_X6_unit_4 NF v f = (0, v30, f31) := by
  subst h4
  simp only [gsX_X6_unit_4, stk_eq, if_neg h0, if_pos h1, if_pos h2, if_pos h3, h5, h6, ite11, ite01, if_true, if_false]
theorem gsX_X6_unit_4_q8 {NF : Nat} {v : Nat → Int32} {f : Nat → Nat → Int32} {v40 : Nat → Int32} {f41 : Nat → Nat → Int32} (h0 : ¬ ((v 2) = 2)) (h1 : ((v 2) < 116)) (h2 : ((v 2) = 40)) (h3 : ¬ ((v 17) < 30)) (h4 : gsX_X6_refuse_1 NF v f = (1, v40, f41)) : gsX_X6_unit_4 NF v f = (1, v40, f41) := by
  simp only [gsX_X6_unit_4, stk_eq, if_neg h0, if_pos h1, if_pos h2, if_neg h3, h4, ite11, ite01, if_true, if_false]
theorem gsX_X6_unit_4_q9 {NF : Nat} {v : Nat → Int32} {f : Nat → Nat → Int32} {v40 : Nat → Int32} {f41 : Nat → Nat → Int32} (h0 : ¬ ((v 2) = 2)) (h1 : ((v 2) < 116)) (h2 : ((v 2) = 40)) (h3 : ¬ ((v 17) < 30)) (h4 : gsX_X6_refuse_1 NF v f = (0, v40, f41)) : gsX_X6_unit_4 NF v f = (0, v40, f41) := by
  simp only [gsX_X6_unit_4, stk_eq, if_neg h0, if_pos h1, if_pos h2, if_neg h3, h4, ite11, ite01, if_true, if_false]
theorem gsX_X6_unit_4_q10 {NF : Nat} {v : Nat → Int32} {f : Nat → Nat → Int32} {v47 : Nat → Int32} {f48 : Nat → Nat → Int32} (h0 : ¬ ((v 2) = 2)) (h1 : ¬ ((v 2) < 116)) (h2 : (121 < (v 2))) (h3 : ¬ ((v 2) = 40)) (h4 : gsX_X6_refuse_1 NF v f = (1, v47, f48)) : gsX_X6_unit_4 NF v f = (1, v47, f48) := by
  simp only [gsX_X6_unit_4, stk_eq, if_neg h0, if_neg h1, if_pos h2, if_neg h3, h4, ite11, ite01, if_true, if_false]
theorem gsX_X6_unit_4_q11 {NF : Nat} {v : Nat → Int32} {f : Nat → Nat → Int32} {v47 : Nat → Int32} {f48 : Nat → Nat → Int32} (h0 : ¬ ((v 2) = 2)) (h1 : ¬ ((v 2) < 116)) (h2 : (121 < (v 2))) (h3 : ¬ ((v 2) = 40)) (h4 : gsX_X6_refuse_1 NF v f = (0, v47, f48)) : gsX_X6_unit_4 NF v f = (0, v47, f48) := by
  simp only [gsX_X6_unit_4, stk_eq, if_neg h0, if_neg h1, if_pos h2, if_neg h3, h4, ite11, ite01, if_true, if_false]
theorem gsX_X6_unit_4_q12 {NF : Nat} {v : Nat → Int32} {f : Nat → Nat → Int32} {t51 : Int32} {v54 : Nat → Int32} {f55 : Nat → Nat → Int32} {v58 : Nat → Int32} {f59 : Nat → Nat → Int32} {v63 : Nat → Int32} {f64 : Nat → Nat → Int32} (h0 : ¬ ((v 2) = 2)) (h1 : ¬ ((v 2) < 116)) (h2 : (121 < (v 2))) (h3 : ((v 2) = 40)) (h4 : ((v 17) < 30)) (h5 : t51 = (v 17) + 1) (h6 : gsX_X9_advance_1 NF (upd v 17 t51) f = (v54, f55)) (h7 : gsX_X6_expression_25 NF v54 f55 = (1, v58, f59)) (h9 : gsX_X6_taken_1 NF 41 v58 f59 = (1, v63, f64)) : gsX_X6_unit_4 NF v f = (1, v63, f64) := by
  subst h5
  simp only [gsX_X6_unit_4, stk_eq, if_neg h0, if_neg h1, if_pos h2, if_pos h3, if_pos h4, h6, h7, h9, ite11, ite01, if_true, if_false]
theorem gsX_X6_unit_4_q13 {NF : Nat} {v : Nat → Int32} {f : Nat → Nat → Int32} {t51 : Int32} {v54 : Nat → Int32} {f55 : Nat → Nat → Int32} {v58 : Nat → Int32} {f59 : Nat → Nat → Int32} {v63 : Nat → Int32} {f64 : Nat → Nat → Int32} (h0 : ¬ ((v 2) = 2)) (h1 : ¬ ((v 2) < 116)) (h2 : (121 < (v 2))) (h3 : ((v 2) = 40)) (h4 : ((v 17) < 30)) (h5 : t51 = (v 17) + 1) (h6 : gsX_X9_advance_1 NF (upd v 17 t51) f = (v54, f55)) (h7 : gsX_X6_expression_25 NF v54 f55 = (1, v58, f59)) (h9 : gsX_X6_taken_1 NF 41 v58 f59 = (0, v63, f64)) : gsX_X6_unit_4 NF v f = (0, v63, f64) := by
  subst h5
  simp only [gsX_X6_unit_4, stk_eq, if_neg h0, if_neg h1, if_pos h2, if_pos h3, if_pos h4, h6, h7, h9, ite11, ite01, if_true, if_false]
theorem gsX_X6_unit_4_q14 {NF : Nat} {v : Nat → Int32} {f : Nat → Nat → Int32} {t51 : Int32} {v54 : Nat → Int32} {f55 : Nat → Nat → Int32} {v58 : Nat → Int32} {f59 : Nat → Nat → Int32} (h0 : ¬ ((v 2) = 2)) (h1 : ¬ ((v 2) < 116)) (h2 : (121 < (v 2))) (h3 : ((v 2) = 40)) (h4 : ((v 17) < 30)) (h5 : t51 = (v 17) + 1) (h6 : gsX_X9_advance_1 NF (upd v 17 t51) f = (v54, f55)) (h7 : gsX_X6_expression_25 NF v54 f55 = (0, v58, f59)) : gsX_X6_unit_4 NF v f = (0, v58, f59) := by
  subst h5
  simp only [gsX_X6_unit_4, stk_eq, if_neg h0, if_neg h1, if_pos h2, if_pos h3, if_pos h4, h6, h7, ite11, ite01, if_true, if_false]
theorem gsX_X6_unit_4_q15 {NF : Nat} {v : Nat → Int32} {f : Nat → Nat → Int32} {v68 : Nat → Int32} {f69 : Nat → Nat → Int32} (h0 : ¬ ((v 2) = 2)) (h1 : ¬ ((v 2) < 116)) (h2 : (121 < (v 2))) (h3 : ((v 2) = 40)) (h4 : ¬ ((v 17) < 30)) (h5 : gsX_X6_refuse_1 NF v f = (1, v68, f69)) : gsX_X6_unit_4 NF v f = (1, v68, f69) := by
  simp only [gsX_X6_unit_4, stk_eq, if_neg h0, if_neg h1, if_pos h2, if_pos h3, if_neg h4, h5, ite11, ite01, if_true, if_false]
theorem gsX_X6_unit_4_q16 {NF : Nat} {v : Nat → Int32} {f : Nat → Nat → Int32} {v68 : Nat → Int32} {f69 : Nat → Nat → Int32} (h0 : ¬ ((v 2) = 2)) (h1 : ¬ ((v 2) < 116)) (h2 : (121 < (v 2))) (h3 : ((v 2) = 40)) (h4 : ¬ ((v 17) < 30)) (h5 : gsX_X6_refuse_1 NF v f = (0, v68, f69)) : gsX_X6_unit_4 NF v f = (0, v68, f69) := by
  simp only [gsX_X6_unit_4, stk_eq, if_neg h0, if_neg h1, if_pos h2, if_pos h3, if_neg h4, h5, ite11, ite01, if_true, if_false]
theorem gsX_X6_unit_4_q17 {NF : Nat} {v : Nat → Int32} {f : Nat → Nat → Int32} {v73 : Nat → Int32} {f74 : Nat → Nat → Int32} {t75 : Int32} {v77 : Nat → Int32} {f78 : Nat → Nat → Int32} (h0 : ¬ ((v 2) = 2)) (h1 : ¬ ((v 2) < 116)) (h2 : ¬ (121 < (v 2))) (h3 : ((v 17) < 30)) (h4 : gsX_X4_add_1 NF (v 2) (v 5) v f = (v73, f74)) (h5 : t75 = (v73 17) + 1) (h6 : gsX_X9_advance_1 NF (upd v73 17 t75) f74 = (v77, f78)) : gsX_X6_unit_4 NF v f = (1, v77, f78) := by
  subst h5
  simp only [gsX_X6_unit_4, stk_eq, if_neg h0, if_neg h1, if_neg h2, if_pos h3, h4, h6]
theorem gsX_X6_unit_4_q18 {NF : Nat} {v : Nat → Int32} {f : Nat → Nat → Int32} {v81 : Nat → Int32} {f82 : Nat → Nat → Int32} (h0 : ¬ ((v 2) = 2)) (h1 : ¬ ((v 2) < 116)) (h2 : ¬ (121 < (v 2))) (h3 : ¬ ((v 17) < 30)) (h4 : gsX_X6_refuse_1 NF v f = (1, v81, f82)) : gsX_X6_unit_4 NF v f = (1, v81, f82) := by
  simp only [gsX_X6_unit_4, stk_eq, if_neg h0, if_neg h1, if_neg h2, if_neg h3, h4, ite11, ite01, if_true, if_false]
theorem gsX_X6_unit_4_q19 {NF : Nat} {v : Nat → Int32} {f : Nat → Nat → Int32} {v81 : Nat → Int32} {f82 : Nat → Nat → Int32} (h0 : ¬ ((v 2) = 2)) (h1 : ¬ ((v 2) < 116)) (h2 : ¬ (121 < (v 2))) (h3 : ¬ ((v 17) < 30)) (h4 : gsX_X6_refuse_1 NF v f = (0, v81, f82)) : gsX_X6_unit_4 NF v f = (0, v81, f82) := by
  simp only [gsX_X6_unit_4, stk_eq, if_neg h0, if_neg h1, if_neg h2, if_neg h3, h4, ite11, ite01, if_true, if_false]
def gsX_X6_expression_24 (NF : Nat) (v : Nat → Int32) (f : Nat → Nat → Int32) : Int32 × (Nat → Int32) × (Nat → Nat → Int32) :=
  match gsX_X6_unit_4 NF v f with
  | (r1, v3, f4) =>
    if r1 = 1 then
      (1, v3, f4)
    else
      (0, v3, f4)
theorem gsX_X6_expression_24_q0 {NF : Nat} {v : Nat → Int32} {f : Nat → Nat → Int32} {v3 : Nat → Int32} {f4 : Nat → Nat → Int32} (h0 : gsX_X6_unit_4 NF v f = (1, v3, f4)) : gsX_X6_expression_24 NF v f = (1, v3, f4) := by
  simp only [gsX_X6_expression_24, h0, ite11, ite01, if_true, if_false]
theorem gsX_X6_expression_24_q1 {NF : Nat} {v : Nat → Int32} {f : Nat → Nat → Int32} {v3 : Nat → Int32} {f4 : Nat → Nat → Int32} (h0 : gsX_X6_unit_4 NF v f = (0, v3, f4)) : gsX_X6_expression_24 NF v f = (0, v3, f4) := by
  simp only [gsX_X6_expression_24, h0, ite11, ite01, if_true, if_false]
def gsX_X6_expression_23_L6 (NF : Nat) : Nat → (Int32) → (Nat → Int32) → (Nat → Nat → Int32) → Int32 × (Nat → Int32) × (Nat → Nat → Int32)
  | 0, _, _, _ => (0, (fun _ => 0), (fun _ _ => 0))
  | n6 + 1, l4_6, v6, f6 =>
    if 1600 ≤ l4_6 then
      (1, v6, f6)
    else
      if gsX_X6_joins_1 NF 4 (v6 2) v6 f6 = 1 then
        match gsX_X9_advance_1 NF v6 f6 with
        | (v12, f13) =>
          match gsX_X6_expression_24 NF v12 f13 with
          | (r14, v16, f17) =>
            if r14 = 1 then
              match gsX_X4_add_1 NF (v6 2) 0 v16 f17 with
              | (v20, f21) =>
                let t22 : Int32 := l4_6 + 1
                gsX_X6_expression_23_L6 NF n6 t22 v20 f21
            else
              (0, v16, f17)
      else
        (1, v6, f6)
def gsX_X6_expression_23 (NF : Nat) (v : Nat → Int32) (f : Nat → Nat → Int32) : Int32 × (Nat → Int32) × (Nat → Nat → Int32) :=
  match gsX_X6_expression_24 NF v f with
  | (r1, v3, f4) =>
    if r1 = 1 then
      gsX_X6_expression_23_L6 NF (4294967296 + NF) 0 v3 f4
    else
      (0, v3, f4)
theorem gsX_X6_expression_23_q4 {NF : Nat} {v : Nat → Int32} {f : Nat → Nat → Int32} {v3 : Nat → Int32} {f4 : Nat → Nat → Int32} (h0 : gsX_X6_expression_24 NF v f = (1, v3, f4)) : gsX_X6_expression_23 NF v f = gsX_X6_expression_23_L6 NF (4294967296 + NF) 0 v3 f4 := by
  simp only [gsX_X6_expression_23, h0, ite11, ite01, if_true, if_false]
theorem gsX_X6_expression_23_q5 {NF : Nat} {v : Nat → Int32} {f : Nat → Nat → Int32} {v3 : Nat → Int32} {f4 : Nat → Nat → Int32} (h0 : gsX_X6_expression_24 NF v f = (0, v3, f4)) : gsX_X6_expression_23 NF v f = (0, v3, f4) := by
  simp only [gsX_X6_expression_23, h0, ite11, ite01, if_true, if_false]
theorem gsX_X6_expression_23_q0 {NF : Nat} {n6 : Nat} {l4_6 : Int32} {v6 : Nat → Int32} {f6 : Nat → Nat → Int32} (h0 : (1600 ≤ l4_6)) : gsX_X6_expression_23_L6 NF (n6 + 1) l4_6 v6 f6 = (1, v6, f6) := by
  simp only [gsX_X6_expression_23_L6, if_pos h0]
theorem gsX_X6_expression_23_q1 {NF : Nat} {n6 : Nat} {l4_6 : Int32} {v6 : Nat → Int32} {f6 : Nat → Nat → Int32} {v12 : Nat → Int32} {f13 : Nat → Nat → Int32} {v16 : Nat → Int32} {f17 : Nat → Nat → Int32} {v20 : Nat → Int32} {f21 : Nat → Nat → Int32} {t22 : Int32} (h0 : ¬ (1600 ≤ l4_6)) (h1 : gsX_X6_joins_1 NF 4 (v6 2) v6 f6 = 1) (h2 : gsX_X9_advance_1 NF v6 f6 = (v12, f13)) (h3 : gsX_X6_expression_24 NF v12 f13 = (1, v16, f17)) (h5 : gsX_X4_add_1 NF (v6 2) 0 v16 f17 = (v20, f21)) (h6 : t22 = l4_6 + 1) : gsX_X6_expression_23_L6 NF (n6 + 1) l4_6 v6 f6 = gsX_X6_expression_23_L6 NF n6 t22 v20 f21 := by
  subst h6
  simp only [gsX_X6_expression_23_L6, if_neg h0, h1, h2, h3, h5, ite11, ite01, if_true, if_false]
theorem gsX_X6_expression_23_q2 {NF : Nat} {n6 : Nat} {l4_6 : Int32} {v6 : Nat → Int32} {f6 : Nat → Nat → Int32} {v12 : Nat → Int32} {f13 : Nat → Nat → Int32} {v16 : Nat → Int32} {f17 : Nat → Nat → Int32} (h0 : ¬ (1600 ≤ l4_6)) (h1 : gsX_X6_joins_1 NF 4 (v6 2) v6 f6 = 1) (h2 : gsX_X9_advance_1 NF v6 f6 = (v12, f13)) (h3 : gsX_X6_expression_24 NF v12 f13 = (0, v16, f17)) : gsX_X6_expression_23_L6 NF (n6 + 1) l4_6 v6 f6 = (0, v16, f17) := by
  simp only [gsX_X6_expression_23_L6, if_neg h0, h1, h2, h3, ite11, ite01, if_true, if_false]
theorem gsX_X6_expression_23_q3 {NF : Nat} {n6 : Nat} {l4_6 : Int32} {v6 : Nat → Int32} {f6 : Nat → Nat → Int32} (h0 : ¬ (1600 ≤ l4_6)) (h1 : gsX_X6_joins_1 NF 4 (v6 2) v6 f6 = 0) : gsX_X6_expression_23_L6 NF (n6 + 1) l4_6 v6 f6 = (1, v6, f6) := by
  simp only [gsX_X6_expression_23_L6, if_neg h0, h1, ite11, ite01, if_true, if_false]
def gsX_X6_expression_22_L6 (NF : Nat) : Nat → (Int32) → (Nat → Int32) → (Nat → Nat → Int32) → Int32 × (Nat → Int32) × (Nat → Nat → Int32)
  | 0, _, _, _ => (0, (fun _ => 0), (fun _ _ => 0))
  | n6 + 1, l4_6, v6, f6 =>
    if 1600 ≤ l4_6 then
      (1, v6, f6)
    else
      if gsX_X6_joins_1 NF 3 (v6 2) v6 f6 = 1 then
        match gsX_X9_advance_1 NF v6 f6 with
        | (v12, f13) =>
          match gsX_X6_expression_23 NF v12 f13 with
          | (r14, v16, f17) =>
            if r14 = 1 then
              match gsX_X4_add_1 NF (v6 2) 0 v16 f17 with
              | (v20, f21) =>
                let t22 : Int32 := l4_6 + 1
                gsX_X6_expression_22_L6 NF n6 t22 v20 f21
            else
              (0, v16, f17)
      else
        (1, v6, f6)
def gsX_X6_expression_22 (NF : Nat) (v : Nat → Int32) (f : Nat → Nat → Int32) : Int32 × (Nat → Int32) × (Nat → Nat → Int32) :=
  match gsX_X6_expression_23 NF v f with
  | (r1, v3, f4) =>
    if r1 = 1 then
      gsX_X6_expression_22_L6 NF (4294967296 + NF) 0 v3 f4
    else
      (0, v3, f4)
theorem gsX_X6_expression_22_q4 {NF : Nat} {v : Nat → Int32} {f : Nat → Nat → Int32} {v3 : Nat → Int32} {f4 : Nat → Nat → Int32} (h0 : gsX_X6_expression_23 NF v f = (1, v3, f4)) : gsX_X6_expression_22 NF v f = gsX_X6_expression_22_L6 NF (4294967296 + NF) 0 v3 f4 := by
  simp only [gsX_X6_expression_22, h0, ite11, ite01, if_true, if_false]
theorem gsX_X6_expression_22_q5 {NF : Nat} {v : Nat → Int32} {f : Nat → Nat → Int32} {v3 : Nat → Int32} {f4 : Nat → Nat → Int32} (h0 : gsX_X6_expression_23 NF v f = (0, v3, f4)) : gsX_X6_expression_22 NF v f = (0, v3, f4) := by
  simp only [gsX_X6_expression_22, h0, ite11, ite01, if_true, if_false]
theorem gsX_X6_expression_22_q0 {NF : Nat} {n6 : Nat} {l4_6 : Int32} {v6 : Nat → Int32} {f6 : Nat → Nat → Int32} (h0 : (1600 ≤ l4_6)) : gsX_X6_expression_22_L6 NF (n6 + 1) l4_6 v6 f6 = (1, v6, f6) := by
  simp only [gsX_X6_expression_22_L6, if_pos h0]
theorem gsX_X6_expression_22_q1 {NF : Nat} {n6 : Nat} {l4_6 : Int32} {v6 : Nat → Int32} {f6 : Nat → Nat → Int32} {v12 : Nat → Int32} {f13 : Nat → Nat → Int32} {v16 : Nat → Int32} {f17 : Nat → Nat → Int32} {v20 : Nat → Int32} {f21 : Nat → Nat → Int32} {t22 : Int32} (h0 : ¬ (1600 ≤ l4_6)) (h1 : gsX_X6_joins_1 NF 3 (v6 2) v6 f6 = 1) (h2 : gsX_X9_advance_1 NF v6 f6 = (v12, f13)) (h3 : gsX_X6_expression_23 NF v12 f13 = (1, v16, f17)) (h5 : gsX_X4_add_1 NF (v6 2) 0 v16 f17 = (v20, f21)) (h6 : t22 = l4_6 + 1) : gsX_X6_expression_22_L6 NF (n6 + 1) l4_6 v6 f6 = gsX_X6_expression_22_L6 NF n6 t22 v20 f21 := by
  subst h6
  simp only [gsX_X6_expression_22_L6, if_neg h0, h1, h2, h3, h5, ite11, ite01, if_true, if_false]
theorem gsX_X6_expression_22_q2 {NF : Nat} {n6 : Nat} {l4_6 : Int32} {v6 : Nat → Int32} {f6 : Nat → Nat → Int32} {v12 : Nat → Int32} {f13 : Nat → Nat → Int32} {v16 : Nat → Int32} {f17 : Nat → Nat → Int32} (h0 : ¬ (1600 ≤ l4_6)) (h1 : gsX_X6_joins_1 NF 3 (v6 2) v6 f6 = 1) (h2 : gsX_X9_advance_1 NF v6 f6 = (v12, f13)) (h3 : gsX_X6_expression_23 NF v12 f13 = (0, v16, f17)) : gsX_X6_expression_22_L6 NF (n6 + 1) l4_6 v6 f6 = (0, v16, f17) := by
  simp only [gsX_X6_expression_22_L6, if_neg h0, h1, h2, h3, ite11, ite01, if_true, if_false]
theorem gsX_X6_expression_22_q3 {NF : Nat} {n6 : Nat} {l4_6 : Int32} {v6 : Nat → Int32} {f6 : Nat → Nat → Int32} (h0 : ¬ (1600 ≤ l4_6)) (h1 : gsX_X6_joins_1 NF 3 (v6 2) v6 f6 = 0) : gsX_X6_expression_22_L6 NF (n6 + 1) l4_6 v6 f6 = (1, v6, f6) := by
  simp only [gsX_X6_expression_22_L6, if_neg h0, h1, ite11, ite01, if_true, if_false]
def gsX_X6_negation_5 (NF : Nat) (v : Nat → Int32) (f : Nat → Nat → Int32) : Int32 × (Nat → Int32) × (Nat → Nat → Int32) :=
  match gsX_X9_advance_1 NF v f with
  | (v2, f3) =>
    match stk NF (gsX_X6_expression_27 NF v2 f3) with
    | (r4, v6, f7) =>
      if r4 = 1 then
        match gsX_X4_add_1 NF 115 0 v6 f7 with
        | (v10, f11) =>
          (1, v10, f11)
      else
        (0, v6, f7)
theorem gsX_X6_negation_5_q0 {NF : Nat} {v : Nat → Int32} {f : Nat → Nat → Int32} {v2 : Nat → Int32} {f3 : Nat → Nat → Int32} {v6 : Nat → Int32} {f7 : Nat → Nat → Int32} {v10 : Nat → Int32} {f11 : Nat → Nat → Int32} (h0 : gsX_X9_advance_1 NF v f = (v2, f3)) (h1 : gsX_X6_expression_27 NF v2 f3 = (1, v6, f7)) (h3 : gsX_X4_add_1 NF 115 0 v6 f7 = (v10, f11)) : gsX_X6_negation_5 NF v f = (1, v10, f11) := by
  simp only [gsX_X6_negation_5, stk_eq, h0, h1, h3, ite11, ite01, if_true, if_false]
theorem gsX_X6_negation_5_q1 {NF : Nat} {v : Nat → Int32} {f : Nat → Nat → Int32} {v2 : Nat → Int32} {f3 : Nat → Nat → Int32} {v6 : Nat → Int32} {f7 : Nat → Nat → Int32} (h0 : gsX_X9_advance_1 NF v f = (v2, f3)) (h1 : gsX_X6_expression_27 NF v2 f3 = (0, v6, f7)) : gsX_X6_negation_5 NF v f = (0, v6, f7) := by
  simp only [gsX_X6_negation_5, stk_eq, h0, h1, ite11, ite01, if_true, if_false]
def gsX_X6_expression_21_L7 (NF : Nat) : Nat → (Int32) → (Nat → Int32) → (Nat → Nat → Int32) → Int32 × (Nat → Int32) × (Nat → Nat → Int32)
  | 0, _, _, _ => (0, (fun _ => 0), (fun _ _ => 0))
  | n7 + 1, l4_7, v7, f7 =>
    if 1 ≤ l4_7 then
      (1, v7, f7)
    else
      if gsX_X6_joins_1 NF 2 (v7 2) v7 f7 = 1 then
        match gsX_X9_advance_1 NF v7 f7 with
        | (v13, f14) =>
          match gsX_X6_expression_22 NF v13 f14 with
          | (r15, v17, f18) =>
            if r15 = 1 then
              match gsX_X4_add_1 NF (v7 2) 0 v17 f18 with
              | (v21, f22) =>
                let t23 : Int32 := l4_7 + 1
                gsX_X6_expression_21_L7 NF n7 t23 v21 f22
            else
              (0, v17, f18)
      else
        (1, v7, f7)
def gsX_X6_expression_21 (NF : Nat) (v : Nat → Int32) (f : Nat → Nat → Int32) : Int32 × (Nat → Int32) × (Nat → Nat → Int32) :=
  if (v 2) = 115 then
    match gsX_X6_negation_5 NF v f with
    | (r26, v28, f29) =>
      if r26 = 1 then
        (1, v28, f29)
      else
        (0, v28, f29)
  else
    match gsX_X6_expression_22 NF v f with
    | (r2, v4, f5) =>
      if r2 = 1 then
        gsX_X6_expression_21_L7 NF (4294967296 + NF) 0 v4 f5
      else
        (0, v4, f5)
theorem gsX_X6_expression_21_q4 {NF : Nat} {v : Nat → Int32} {f : Nat → Nat → Int32} {v4 : Nat → Int32} {f5 : Nat → Nat → Int32} (h0 : ¬ ((v 2) = 115)) (h1 : gsX_X6_expression_22 NF v f = (1, v4, f5)) : gsX_X6_expression_21 NF v f = gsX_X6_expression_21_L7 NF (4294967296 + NF) 0 v4 f5 := by
  simp only [gsX_X6_expression_21, if_neg h0, h1, ite11, ite01, if_true, if_false]
theorem gsX_X6_expression_21_q5 {NF : Nat} {v : Nat → Int32} {f : Nat → Nat → Int32} {v4 : Nat → Int32} {f5 : Nat → Nat → Int32} (h0 : ¬ ((v 2) = 115)) (h1 : gsX_X6_expression_22 NF v f = (0, v4, f5)) : gsX_X6_expression_21 NF v f = (0, v4, f5) := by
  simp only [gsX_X6_expression_21, if_neg h0, h1, ite11, ite01, if_true, if_false]
theorem gsX_X6_expression_21_q6 {NF : Nat} {v : Nat → Int32} {f : Nat → Nat → Int32} {v28 : Nat → Int32} {f29 : Nat → Nat → Int32} (h0 : ((v 2) = 115)) (h1 : gsX_X6_negation_5 NF v f = (1, v28, f29)) : gsX_X6_expression_21 NF v f = (1, v28, f29) := by
  simp only [gsX_X6_expression_21, if_pos h0, h1, ite11, ite01, if_true, if_false]
theorem gsX_X6_expression_21_q7 {NF : Nat} {v : Nat → Int32} {f : Nat → Nat → Int32} {v28 : Nat → Int32} {f29 : Nat → Nat → Int32} (h0 : ((v 2) = 115)) (h1 : gsX_X6_negation_5 NF v f = (0, v28, f29)) : gsX_X6_expression_21 NF v f = (0, v28, f29) := by
  simp only [gsX_X6_expression_21, if_pos h0, h1, ite11, ite01, if_true, if_false]
theorem gsX_X6_expression_21_q0 {NF : Nat} {n7 : Nat} {l4_7 : Int32} {v7 : Nat → Int32} {f7 : Nat → Nat → Int32} (h0 : (1 ≤ l4_7)) : gsX_X6_expression_21_L7 NF (n7 + 1) l4_7 v7 f7 = (1, v7, f7) := by
  simp only [gsX_X6_expression_21_L7, if_pos h0]
theorem gsX_X6_expression_21_q1 {NF : Nat} {n7 : Nat} {l4_7 : Int32} {v7 : Nat → Int32} {f7 : Nat → Nat → Int32} {v13 : Nat → Int32} {f14 : Nat → Nat → Int32} {v17 : Nat → Int32} {f18 : Nat → Nat → Int32} {v21 : Nat → Int32} {f22 : Nat → Nat → Int32} {t23 : Int32} (h0 : ¬ (1 ≤ l4_7)) (h1 : gsX_X6_joins_1 NF 2 (v7 2) v7 f7 = 1) (h2 : gsX_X9_advance_1 NF v7 f7 = (v13, f14)) (h3 : gsX_X6_expression_22 NF v13 f14 = (1, v17, f18)) (h5 : gsX_X4_add_1 NF (v7 2) 0 v17 f18 = (v21, f22)) (h6 : t23 = l4_7 + 1) : gsX_X6_expression_21_L7 NF (n7 + 1) l4_7 v7 f7 = gsX_X6_expression_21_L7 NF n7 t23 v21 f22 := by
  subst h6
  simp only [gsX_X6_expression_21_L7, if_neg h0, h1, h2, h3, h5, ite11, ite01, if_true, if_false]
theorem gsX_X6_expression_21_q2 {NF : Nat} {n7 : Nat} {l4_7 : Int32} {v7 : Nat → Int32} {f7 : Nat → Nat → Int32} {v13 : Nat → Int32} {f14 : Nat → Nat → Int32} {v17 : Nat → Int32} {f18 : Nat → Nat → Int32} (h0 : ¬ (1 ≤ l4_7)) (h1 : gsX_X6_joins_1 NF 2 (v7 2) v7 f7 = 1) (h2 : gsX_X9_advance_1 NF v7 f7 = (v13, f14)) (h3 : gsX_X6_expression_22 NF v13 f14 = (0, v17, f18)) : gsX_X6_expression_21_L7 NF (n7 + 1) l4_7 v7 f7 = (0, v17, f18) := by
  simp only [gsX_X6_expression_21_L7, if_neg h0, h1, h2, h3, ite11, ite01, if_true, if_false]
theorem gsX_X6_expression_21_q3 {NF : Nat} {n7 : Nat} {l4_7 : Int32} {v7 : Nat → Int32} {f7 : Nat → Nat → Int32} (h0 : ¬ (1 ≤ l4_7)) (h1 : gsX_X6_joins_1 NF 2 (v7 2) v7 f7 = 0) : gsX_X6_expression_21_L7 NF (n7 + 1) l4_7 v7 f7 = (1, v7, f7) := by
  simp only [gsX_X6_expression_21_L7, if_neg h0, h1, ite11, ite01, if_true, if_false]
def gsX_X6_expression_20_L6 (NF : Nat) : Nat → (Int32) → (Nat → Int32) → (Nat → Nat → Int32) → Int32 × (Nat → Int32) × (Nat → Nat → Int32)
  | 0, _, _, _ => (0, (fun _ => 0), (fun _ _ => 0))
  | n6 + 1, l4_6, v6, f6 =>
    if 1600 ≤ l4_6 then
      (1, v6, f6)
    else
      if gsX_X6_joins_1 NF 1 (v6 2) v6 f6 = 1 then
        match gsX_X9_advance_1 NF v6 f6 with
        | (v12, f13) =>
          match gsX_X6_expression_21 NF v12 f13 with
          | (r14, v16, f17) =>
            if r14 = 1 then
              match gsX_X4_add_1 NF (v6 2) 0 v16 f17 with
              | (v20, f21) =>
                let t22 : Int32 := l4_6 + 1
                gsX_X6_expression_20_L6 NF n6 t22 v20 f21
            else
              (0, v16, f17)
      else
        (1, v6, f6)
def gsX_X6_expression_20 (NF : Nat) (v : Nat → Int32) (f : Nat → Nat → Int32) : Int32 × (Nat → Int32) × (Nat → Nat → Int32) :=
  match gsX_X6_expression_21 NF v f with
  | (r1, v3, f4) =>
    if r1 = 1 then
      gsX_X6_expression_20_L6 NF (4294967296 + NF) 0 v3 f4
    else
      (0, v3, f4)
theorem gsX_X6_expression_20_q4 {NF : Nat} {v : Nat → Int32} {f : Nat → Nat → Int32} {v3 : Nat → Int32} {f4 : Nat → Nat → Int32} (h0 : gsX_X6_expression_21 NF v f = (1, v3, f4)) : gsX_X6_expression_20 NF v f = gsX_X6_expression_20_L6 NF (4294967296 + NF) 0 v3 f4 := by
  simp only [gsX_X6_expression_20, h0, ite11, ite01, if_true, if_false]
theorem gsX_X6_expression_20_q5 {NF : Nat} {v : Nat → Int32} {f : Nat → Nat → Int32} {v3 : Nat → Int32} {f4 : Nat → Nat → Int32} (h0 : gsX_X6_expression_21 NF v f = (0, v3, f4)) : gsX_X6_expression_20 NF v f = (0, v3, f4) := by
  simp only [gsX_X6_expression_20, h0, ite11, ite01, if_true, if_false]
theorem gsX_X6_expression_20_q0 {NF : Nat} {n6 : Nat} {l4_6 : Int32} {v6 : Nat → Int32} {f6 : Nat → Nat → Int32} (h0 : (1600 ≤ l4_6)) : gsX_X6_expression_20_L6 NF (n6 + 1) l4_6 v6 f6 = (1, v6, f6) := by
  simp only [gsX_X6_expression_20_L6, if_pos h0]
theorem gsX_X6_expression_20_q1 {NF : Nat} {n6 : Nat} {l4_6 : Int32} {v6 : Nat → Int32} {f6 : Nat → Nat → Int32} {v12 : Nat → Int32} {f13 : Nat → Nat → Int32} {v16 : Nat → Int32} {f17 : Nat → Nat → Int32} {v20 : Nat → Int32} {f21 : Nat → Nat → Int32} {t22 : Int32} (h0 : ¬ (1600 ≤ l4_6)) (h1 : gsX_X6_joins_1 NF 1 (v6 2) v6 f6 = 1) (h2 : gsX_X9_advance_1 NF v6 f6 = (v12, f13)) (h3 : gsX_X6_expression_21 NF v12 f13 = (1, v16, f17)) (h5 : gsX_X4_add_1 NF (v6 2) 0 v16 f17 = (v20, f21)) (h6 : t22 = l4_6 + 1) : gsX_X6_expression_20_L6 NF (n6 + 1) l4_6 v6 f6 = gsX_X6_expression_20_L6 NF n6 t22 v20 f21 := by
  subst h6
  simp only [gsX_X6_expression_20_L6, if_neg h0, h1, h2, h3, h5, ite11, ite01, if_true, if_false]
theorem gsX_X6_expression_20_q2 {NF : Nat} {n6 : Nat} {l4_6 : Int32} {v6 : Nat → Int32} {f6 : Nat → Nat → Int32} {v12 : Nat → Int32} {f13 : Nat → Nat → Int32} {v16 : Nat → Int32} {f17 : Nat → Nat → Int32} (h0 : ¬ (1600 ≤ l4_6)) (h1 : gsX_X6_joins_1 NF 1 (v6 2) v6 f6 = 1) (h2 : gsX_X9_advance_1 NF v6 f6 = (v12, f13)) (h3 : gsX_X6_expression_21 NF v12 f13 = (0, v16, f17)) : gsX_X6_expression_20_L6 NF (n6 + 1) l4_6 v6 f6 = (0, v16, f17) := by
  simp only [gsX_X6_expression_20_L6, if_neg h0, h1, h2, h3, ite11, ite01, if_true, if_false]
theorem gsX_X6_expression_20_q3 {NF : Nat} {n6 : Nat} {l4_6 : Int32} {v6 : Nat → Int32} {f6 : Nat → Nat → Int32} (h0 : ¬ (1600 ≤ l4_6)) (h1 : gsX_X6_joins_1 NF 1 (v6 2) v6 f6 = 0) : gsX_X6_expression_20_L6 NF (n6 + 1) l4_6 v6 f6 = (1, v6, f6) := by
  simp only [gsX_X6_expression_20_L6, if_neg h0, h1, ite11, ite01, if_true, if_false]
def gsX_X6_expression_19_L6 (NF : Nat) : Nat → (Int32) → (Nat → Int32) → (Nat → Nat → Int32) → Int32 × (Nat → Int32) × (Nat → Nat → Int32)
  | 0, _, _, _ => (0, (fun _ => 0), (fun _ _ => 0))
  | n6 + 1, l4_6, v6, f6 =>
    if 1600 ≤ l4_6 then
      (1, v6, f6)
    else
      if gsX_X6_joins_1 NF 0 (v6 2) v6 f6 = 1 then
        match gsX_X9_advance_1 NF v6 f6 with
        | (v12, f13) =>
          match gsX_X6_expression_20 NF v12 f13 with
          | (r14, v16, f17) =>
            if r14 = 1 then
              match gsX_X4_add_1 NF (v6 2) 0 v16 f17 with
              | (v20, f21) =>
                let t22 : Int32 := l4_6 + 1
                gsX_X6_expression_19_L6 NF n6 t22 v20 f21
            else
              (0, v16, f17)
      else
        (1, v6, f6)
def gsX_X6_expression_19 (NF : Nat) (v : Nat → Int32) (f : Nat → Nat → Int32) : Int32 × (Nat → Int32) × (Nat → Nat → Int32) :=
  match gsX_X6_expression_20 NF v f with
  | (r1, v3, f4) =>
    if r1 = 1 then
      gsX_X6_expression_19_L6 NF (4294967296 + NF) 0 v3 f4
    else
      (0, v3, f4)
theorem gsX_X6_expression_19_q4 {NF : Nat} {v : Nat → Int32} {f : Nat → Nat → Int32} {v3 : Nat → Int32} {f4 : Nat → Nat → Int32} (h0 : gsX_X6_expression_20 NF v f = (1, v3, f4)) : gsX_X6_expression_19 NF v f = gsX_X6_expression_19_L6 NF (4294967296 + NF) 0 v3 f4 := by
  simp only [gsX_X6_expression_19, h0, ite11, ite01, if_true, if_false]
theorem gsX_X6_expression_19_q5 {NF : Nat} {v : Nat → Int32} {f : Nat → Nat → Int32} {v3 : Nat → Int32} {f4 : Nat → Nat → Int32} (h0 : gsX_X6_expression_20 NF v f = (0, v3, f4)) : gsX_X6_expression_19 NF v f = (0, v3, f4) := by
  simp only [gsX_X6_expression_19, h0, ite11, ite01, if_true, if_false]
theorem gsX_X6_expression_19_q0 {NF : Nat} {n6 : Nat} {l4_6 : Int32} {v6 : Nat → Int32} {f6 : Nat → Nat → Int32} (h0 : (1600 ≤ l4_6)) : gsX_X6_expression_19_L6 NF (n6 + 1) l4_6 v6 f6 = (1, v6, f6) := by
  simp only [gsX_X6_expression_19_L6, if_pos h0]
theorem gsX_X6_expression_19_q1 {NF : Nat} {n6 : Nat} {l4_6 : Int32} {v6 : Nat → Int32} {f6 : Nat → Nat → Int32} {v12 : Nat → Int32} {f13 : Nat → Nat → Int32} {v16 : Nat → Int32} {f17 : Nat → Nat → Int32} {v20 : Nat → Int32} {f21 : Nat → Nat → Int32} {t22 : Int32} (h0 : ¬ (1600 ≤ l4_6)) (h1 : gsX_X6_joins_1 NF 0 (v6 2) v6 f6 = 1) (h2 : gsX_X9_advance_1 NF v6 f6 = (v12, f13)) (h3 : gsX_X6_expression_20 NF v12 f13 = (1, v16, f17)) (h5 : gsX_X4_add_1 NF (v6 2) 0 v16 f17 = (v20, f21)) (h6 : t22 = l4_6 + 1) : gsX_X6_expression_19_L6 NF (n6 + 1) l4_6 v6 f6 = gsX_X6_expression_19_L6 NF n6 t22 v20 f21 := by
  subst h6
  simp only [gsX_X6_expression_19_L6, if_neg h0, h1, h2, h3, h5, ite11, ite01, if_true, if_false]
theorem gsX_X6_expression_19_q2 {NF : Nat} {n6 : Nat} {l4_6 : Int32} {v6 : Nat → Int32} {f6 : Nat → Nat → Int32} {v12 : Nat → Int32} {f13 : Nat → Nat → Int32} {v16 : Nat → Int32} {f17 : Nat → Nat → Int32} (h0 : ¬ (1600 ≤ l4_6)) (h1 : gsX_X6_joins_1 NF 0 (v6 2) v6 f6 = 1) (h2 : gsX_X9_advance_1 NF v6 f6 = (v12, f13)) (h3 : gsX_X6_expression_20 NF v12 f13 = (0, v16, f17)) : gsX_X6_expression_19_L6 NF (n6 + 1) l4_6 v6 f6 = (0, v16, f17) := by
  simp only [gsX_X6_expression_19_L6, if_neg h0, h1, h2, h3, ite11, ite01, if_true, if_false]
theorem gsX_X6_expression_19_q3 {NF : Nat} {n6 : Nat} {l4_6 : Int32} {v6 : Nat → Int32} {f6 : Nat → Nat → Int32} (h0 : ¬ (1600 ≤ l4_6)) (h1 : gsX_X6_joins_1 NF 0 (v6 2) v6 f6 = 0) : gsX_X6_expression_19_L6 NF (n6 + 1) l4_6 v6 f6 = (1, v6, f6) := by
  simp only [gsX_X6_expression_19_L6, if_neg h0, h1, ite11, ite01, if_true, if_false]
def gsX_X6_unit_3 (NF : Nat) (v : Nat → Int32) (f : Nat → Nat → Int32) : Int32 × (Nat → Int32) × (Nat → Nat → Int32) :=
  if (v 2) = 2 then
    if (v 17) < 30 then
      match gsX_X4_add_1 NF (v 2) (v 5) v f with
      | (v4, f5) =>
        let t6 : Int32 := (v4 17) + 1
        match gsX_X9_advance_1 NF (upd v4 17 t6) f5 with
        | (v8, f9) =>
          (1, v8, f9)
    else
      match gsX_X6_refuse_1 NF v f with
      | (r10, v12, f13) =>
        if r10 = 1 then
          (1, v12, f13)
        else
          (0, v12, f13)
  else
    if (v 2) < 116 then
      if (v 2) = 40 then
        if (v 17) < 30 then
          let t23 : Int32 := (v 17) + 1
          match gsX_X9_advance_1 NF (upd v 17 t23) f with
          | (v26, f27) =>
            match stk NF (gsX_X6_expression_19 NF v26 f27) with
            | (r28, v30, f31) =>
              if r28 = 1 then
                match gsX_X6_taken_1 NF 41 v30 f31 with
                | (r33, v35, f36) =>
                  if r33 = 1 then
                    (1, v35, f36)
                  else
                    (0, v35, f36)
              else
                (0, v30, f31)
        else
          match gsX_X6_refuse_1 NF v f with
          | (r38, v40, f41) =>
            if r38 = 1 then
              (1, v40, f41)
            else
              (0, v40, f41)
      else
        match gsX_X6_refuse_1 NF v f with
        | (r17, v19, f20) =>
          if r17 = 1 then
            (1, v19, f20)
          else
            (0, v19, f20)
    else
      if 121 < (v 2) then
        if (v 2) = 40 then
          if (v 17) < 30 then
            let t51 : Int32 := (v 17) + 1
            match gsX_X9_advance_1 NF (upd v 17 t51) f with
            | (v54, f55) =>
              match stk NF (gsX_X6_expression_19 NF v54 f55) with
              | (r56, v58, f59) =>
                if r56 = 1 then
                  match gsX_X6_taken_1 NF 41 v58 f59 with
                  | (r61, v63, f64) =>
                    if r61 = 1 then
                      (1, v63, f64)
                    else
                      (0, v63, f64)
                else
                  (0, v58, f59)
          else
            match gsX_X6_refuse_1 NF v f with
            | (r66, v68, f69) =>
              if r66 = 1 then
                (1, v68, f69)
              else
                (0, v68, f69)
        else
          match gsX_X6_refuse_1 NF v f with
          | (r45, v47, f48) =>
            if r45 = 1 then
              (1, v47, f48)
            else
              (0, v47, f48)
      else
        if (v 17) < 30 then
          match gsX_X4_add_1 NF (v 2) (v 5) v f with
          | (v73, f74) =>
            let t75 : Int32 := (v73 17) + 1
            match gsX_X9_advance_1 NF (upd v73 17 t75) f74 with
            | (v77, f78) =>
              (1, v77, f78)
        else
          match gsX_X6_refuse_1 NF v f with
          | (r79, v81, f82) =>
            if r79 = 1 then
              (1, v81, f82)
            else
              (0, v81, f82)
theorem gsX_X6_unit_3_q0 {NF : Nat} {v : Nat → Int32} {f : Nat → Nat → Int32} {v4 : Nat → Int32} {f5 : Nat → Nat → Int32} {t6 : Int32} {v8 : Nat → Int32} {f9 : Nat → Nat → Int32} (h0 : ((v 2) = 2)) (h1 : ((v 17) < 30)) (h2 : gsX_X4_add_1 NF (v 2) (v 5) v f = (v4, f5)) (h3 : t6 = (v4 17) + 1) (h4 : gsX_X9_advance_1 NF (upd v4 17 t6) f5 = (v8, f9)) : gsX_X6_unit_3 NF v f = (1, v8, f9) := by
  subst h3
  simp only [gsX_X6_unit_3, stk_eq, if_pos h0, if_pos h1, h2, h4]
theorem gsX_X6_unit_3_q1 {NF : Nat} {v : Nat → Int32} {f : Nat → Nat → Int32} {v12 : Nat → Int32} {f13 : Nat → Nat → Int32} (h0 : ((v 2) = 2)) (h1 : ¬ ((v 17) < 30)) (h2 : gsX_X6_refuse_1 NF v f = (1, v12, f13)) : gsX_X6_unit_3 NF v f = (1, v12, f13) := by
  simp only [gsX_X6_unit_3, stk_eq, if_pos h0, if_neg h1, h2, ite11, ite01, if_true, if_false]
theorem gsX_X6_unit_3_q2 {NF : Nat} {v : Nat → Int32} {f : Nat → Nat → Int32} {v12 : Nat → Int32} {f13 : Nat → Nat → Int32} (h0 : ((v 2) = 2)) (h1 : ¬ ((v 17) < 30)) (h2 : gsX_X6_refuse_1 NF v f = (0, v12, f13)) : gsX_X6_unit_3 NF v f = (0, v12, f13) := by
  simp only [gsX_X6_unit_3, stk_eq, if_pos h0, if_neg h1, h2, ite11, ite01, if_true, if_false]
theorem gsX_X6_unit_3_q3 {NF : Nat} {v : Nat → Int32} {f : Nat → Nat → Int32} {v19 : Nat → Int32} {f20 : Nat → Nat → Int32} (h0 : ¬ ((v 2) = 2)) (h1 : ((v 2) < 116)) (h2 : ¬ ((v 2) = 40)) (h3 : gsX_X6_refuse_1 NF v f = (1, v19, f20)) : gsX_X6_unit_3 NF v f = (1, v19, f20) := by
  simp only [gsX_X6_unit_3, stk_eq, if_neg h0, if_pos h1, if_neg h2, h3, ite11, ite01, if_true, if_false]
theorem gsX_X6_unit_3_q4 {NF : Nat} {v : Nat → Int32} {f : Nat → Nat → Int32} {v19 : Nat → Int32} {f20 : Nat → Nat → Int32} (h0 : ¬ ((v 2) = 2)) (h1 : ((v 2) < 116)) (h2 : ¬ ((v 2) = 40)) (h3 : gsX_X6_refuse_1 NF v f = (0, v19, f20)) : gsX_X6_unit_3 NF v f = (0, v19, f20) := by
  simp only [gsX_X6_unit_3, stk_eq, if_neg h0, if_pos h1, if_neg h2, h3, ite11, ite01, if_true, if_false]
theorem gsX_X6_unit_3_q5 {NF : Nat} {v : Nat → Int32} {f : Nat → Nat → Int32} {t23 : Int32} {v26 : Nat → Int32} {f27 : Nat → Nat → Int32} {v30 : Nat → Int32} {f31 : Nat → Nat → Int32} {v35 : Nat → Int32} {f36 : Nat → Nat → Int32} (h0 : ¬ ((v 2) = 2)) (h1 : ((v 2) < 116)) (h2 : ((v 2) = 40)) (h3 : ((v 17) < 30)) (h4 : t23 = (v 17) + 1) (h5 : gsX_X9_advance_1 NF (upd v 17 t23) f = (v26, f27)) (h6 : gsX_X6_expression_19 NF v26 f27 = (1, v30, f31)) (h8 : gsX_X6_taken_1 NF 41 v30 f31 = (1, v35, f36)) : gsX_X6_unit_3 NF v f = (1, v35, f36) := by
  subst h4
  simp only [gsX_X6_unit_3, stk_eq, if_neg h0, if_pos h1, if_pos h2, if_pos h3, h5, h6, h8, ite11, ite01, if_true, if_false]
theorem gsX_X6_unit_3_q6 {NF : Nat} {v : Nat → Int32} {f : Nat → Nat → Int32} {t23 : Int32} {v26 : Nat → Int32} {f27 : Nat → Nat → Int32} {v30 : Nat → Int32} {f31 : Nat → Nat → Int32} {v35 : Nat → Int32} {f36 : Nat → Nat → Int32} (h0 : ¬ ((v 2) = 2)) (h1 : ((v 2) < 116)) (h2 : ((v 2) = 40)) (h3 : ((v 17) < 30)) (h4 : t23 = (v 17) + 1) (h5 : gsX_X9_advance_1 NF (upd v 17 t23) f = (v26, f27)) (h6 : gsX_X6_expression_19 NF v26 f27 = (1, v30, f31)) (h8 : gsX_X6_taken_1 NF 41 v30 f31 = (0, v35, f36)) : gsX_X6_unit_3 NF v f = (0, v35, f36) := by
  subst h4
  simp only [gsX_X6_unit_3, stk_eq, if_neg h0, if_pos h1, if_pos h2, if_pos h3, h5, h6, h8, ite11, ite01, if_true, if_false]
theorem gsX_X6_unit_3_q7 {NF : Nat} {v : Nat → Int32} {f : Nat → Nat → Int32} {t23 : Int32} {v26 : Nat → Int32} {f27 : Nat → Nat → Int32} {v30 : Nat → Int32} {f31 : Nat → Nat → Int32} (h0 : ¬ ((v 2) = 2)) (h1 : ((v 2) < 116)) (h2 : ((v 2) = 40)) (h3 : ((v 17) < 30)) (h4 : t23 = (v 17) + 1) (h5 : gsX_X9_advance_1 NF (upd v 17 t23) f = (v26, f27)) (h6 : gsX_X6_expression_19 NF v26 f27 = (0, v30, f31)) : gsX_X6_unit_3 NF v f = (0, v30, f31) := by
  subst h4
  simp only [gsX_X6_unit_3, stk_eq, if_neg h0, if_pos h1, if_pos h2, if_pos h3, h5, h6, ite11, ite01, if_true, if_false]
theorem gsX_X6_unit_3_q8 {NF : Nat} {v : Nat → Int32} {f : Nat → Nat → Int32} {v40 : Nat → Int32} {f41 : Nat → Nat → Int32} (h0 : ¬ ((v 2) = 2)) (h1 : ((v 2) < 116)) (h2 : ((v 2) = 40)) (h3 : ¬ ((v 17) < 30)) (h4 : gsX_X6_refuse_1 NF v f = (1, v40, f41)) : gsX_X6_unit_3 NF v f = (1, v40, f41) := by
  simp only [gsX_X6_unit_3, stk_eq, if_neg h0, if_pos h1, if_pos h2, if_neg h3, h4, ite11, ite01, if_true, if_false]
theorem gsX_X6_unit_3_q9 {NF : Nat} {v : Nat → Int32} {f : Nat → Nat → Int32} {v40 : Nat → Int32} {f41 : Nat → Nat → Int32} (h0 : ¬ ((v 2) = 2)) (h1 : ((v 2) < 116)) (h2 : ((v 2) = 40)) (h3 : ¬ ((v 17) < 30)) (h4 : gsX_X6_refuse_1 NF v f = (0, v40, f41)) : gsX_X6_unit_3 NF v f = (0, v40, f41) := by
  simp only [gsX_X6_unit_3, stk_eq, if_neg h0, if_pos h1, if_pos h2, if_neg h3, h4, ite11, ite01, if_true, if_false]
theorem gsX_X6_unit_3_q10 {NF : Nat} {v : Nat → Int32} {f : Nat → Nat → Int32} {v47 : Nat → Int32} {f48 : Nat → Nat → Int32} (h0 : ¬ ((v 2) = 2)) (h1 : ¬ ((v 2) < 116)) (h2 : (121 < (v 2))) (h3 : ¬ ((v 2) = 40)) (h4 : gsX_X6_refuse_1 NF v f = (1, v47, f48)) : gsX_X6_unit_3 NF v f = (1, v47, f48) := by
  simp only [gsX_X6_unit_3, stk_eq, if_neg h0, if_neg h1, if_pos h2, if_neg h3, h4, ite11, ite01, if_true, if_false]
theorem gsX_X6_unit_3_q11 {NF : Nat} {v : Nat → Int32} {f : Nat → Nat → Int32} {v47 : Nat → Int32} {f48 : Nat → Nat → Int32} (h0 : ¬ ((v 2) = 2)) (h1 : ¬ ((v 2) < 116)) (h2 : (121 < (v 2))) (h3 : ¬ ((v 2) = 40)) (h4 : gsX_X6_refuse_1 NF v f = (0, v47, f48)) : gsX_X6_unit_3 NF v f = (0, v47, f48) := by
  simp only [gsX_X6_unit_3, stk_eq, if_neg h0, if_neg h1, if_pos h2, if_neg h3, h4, ite11, ite01, if_true, if_false]
theorem gsX_X6_unit_3_q12 {NF : Nat} {v : Nat → Int32} {f : Nat → Nat → Int32} {t51 : Int32} {v54 : Nat → Int32} {f55 : Nat → Nat → Int32} {v58 : Nat → Int32} {f59 : Nat → Nat → Int32} {v63 : Nat → Int32} {f64 : Nat → Nat → Int32} (h0 : ¬ ((v 2) = 2)) (h1 : ¬ ((v 2) < 116)) (h2 : (121 < (v 2))) (h3 : ((v 2) = 40)) (h4 : ((v 17) < 30)) (h5 : t51 = (v 17) + 1) (h6 : gsX_X9_advance_1 NF (upd v 17 t51) f = (v54, f55)) (h7 : gsX_X6_expression_19 NF v54 f55 = (1, v58, f59)) (h9 : gsX_X6_taken_1 NF 41 v58 f59 = (1, v63, f64)) : gsX_X6_unit_3 NF v f = (1, v63, f64) := by
  subst h5
  simp only [gsX_X6_unit_3, stk_eq, if_neg h0, if_neg h1, if_pos h2, if_pos h3, if_pos h4, h6, h7, h9, ite11, ite01, if_true, if_false]
theorem gsX_X6_unit_3_q13 {NF : Nat} {v : Nat → Int32} {f : Nat → Nat → Int32} {t51 : Int32} {v54 : Nat → Int32} {f55 : Nat → Nat → Int32} {v58 : Nat → Int32} {f59 : Nat → Nat → Int32} {v63 : Nat → Int32} {f64 : Nat → Nat → Int32} (h0 : ¬ ((v 2) = 2)) (h1 : ¬ ((v 2) < 116)) (h2 : (121 < (v 2))) (h3 : ((v 2) = 40)) (h4 : ((v 17) < 30)) (h5 : t51 = (v 17) + 1) (h6 : gsX_X9_advance_1 NF (upd v 17 t51) f = (v54, f55)) (h7 : gsX_X6_expression_19 NF v54 f55 = (1, v58, f59)) (h9 : gsX_X6_taken_1 NF 41 v58 f59 = (0, v63, f64)) : gsX_X6_unit_3 NF v f = (0, v63, f64) := by
  subst h5
  simp only [gsX_X6_unit_3, stk_eq, if_neg h0, if_neg h1, if_pos h2, if_pos h3, if_pos h4, h6, h7, h9, ite11, ite01, if_true, if_false]
theorem gsX_X6_unit_3_q14 {NF : Nat} {v : Nat → Int32} {f : Nat → Nat → Int32} {t51 : Int32} {v54 : Nat → Int32} {f55 : Nat → Nat → Int32} {v58 : Nat → Int32} {f59 : Nat → Nat → Int32} (h0 : ¬ ((v 2) = 2)) (h1 : ¬ ((v 2) < 116)) (h2 : (121 < (v 2))) (h3 : ((v 2) = 40)) (h4 : ((v 17) < 30)) (h5 : t51 = (v 17) + 1) (h6 : gsX_X9_advance_1 NF (upd v 17 t51) f = (v54, f55)) (h7 : gsX_X6_expression_19 NF v54 f55 = (0, v58, f59)) : gsX_X6_unit_3 NF v f = (0, v58, f59) := by
  subst h5
  simp only [gsX_X6_unit_3, stk_eq, if_neg h0, if_neg h1, if_pos h2, if_pos h3, if_pos h4, h6, h7, ite11, ite01, if_true, if_false]
theorem gsX_X6_unit_3_q15 {NF : Nat} {v : Nat → Int32} {f : Nat → Nat → Int32} {v68 : Nat → Int32} {f69 : Nat → Nat → Int32} (h0 : ¬ ((v 2) = 2)) (h1 : ¬ ((v 2) < 116)) (h2 : (121 < (v 2))) (h3 : ((v 2) = 40)) (h4 : ¬ ((v 17) < 30)) (h5 : gsX_X6_refuse_1 NF v f = (1, v68, f69)) : gsX_X6_unit_3 NF v f = (1, v68, f69) := by
  simp only [gsX_X6_unit_3, stk_eq, if_neg h0, if_neg h1, if_pos h2, if_pos h3, if_neg h4, h5, ite11, ite01, if_true, if_false]
theorem gsX_X6_unit_3_q16 {NF : Nat} {v : Nat → Int32} {f : Nat → Nat → Int32} {v68 : Nat → Int32} {f69 : Nat → Nat → Int32} (h0 : ¬ ((v 2) = 2)) (h1 : ¬ ((v 2) < 116)) (h2 : (121 < (v 2))) (h3 : ((v 2) = 40)) (h4 : ¬ ((v 17) < 30)) (h5 : gsX_X6_refuse_1 NF v f = (0, v68, f69)) : gsX_X6_unit_3 NF v f = (0, v68, f69) := by
  simp only [gsX_X6_unit_3, stk_eq, if_neg h0, if_neg h1, if_pos h2, if_pos h3, if_neg h4, h5, ite11, ite01, if_true, if_false]
theorem gsX_X6_unit_3_q17 {NF : Nat} {v : Nat → Int32} {f : Nat → Nat → Int32} {v73 : Nat → Int32} {f74 : Nat → Nat → Int32} {t75 : Int32} {v77 : Nat → Int32} {f78 : Nat → Nat → Int32} (h0 : ¬ ((v 2) = 2)) (h1 : ¬ ((v 2) < 116)) (h2 : ¬ (121 < (v 2))) (h3 : ((v 17) < 30)) (h4 : gsX_X4_add_1 NF (v 2) (v 5) v f = (v73, f74)) (h5 : t75 = (v73 17) + 1) (h6 : gsX_X9_advance_1 NF (upd v73 17 t75) f74 = (v77, f78)) : gsX_X6_unit_3 NF v f = (1, v77, f78) := by
  subst h5
  simp only [gsX_X6_unit_3, stk_eq, if_neg h0, if_neg h1, if_neg h2, if_pos h3, h4, h6]
theorem gsX_X6_unit_3_q18 {NF : Nat} {v : Nat → Int32} {f : Nat → Nat → Int32} {v81 : Nat → Int32} {f82 : Nat → Nat → Int32} (h0 : ¬ ((v 2) = 2)) (h1 : ¬ ((v 2) < 116)) (h2 : ¬ (121 < (v 2))) (h3 : ¬ ((v 17) < 30)) (h4 : gsX_X6_refuse_1 NF v f = (1, v81, f82)) : gsX_X6_unit_3 NF v f = (1, v81, f82) := by
  simp only [gsX_X6_unit_3, stk_eq, if_neg h0, if_neg h1, if_neg h2, if_neg h3, h4, ite11, ite01, if_true, if_false]
theorem gsX_X6_unit_3_q19 {NF : Nat} {v : Nat → Int32} {f : Nat → Nat → Int32} {v81 : Nat → Int32} {f82 : Nat → Nat → Int32} (h0 : ¬ ((v 2) = 2)) (h1 : ¬ ((v 2) < 116)) (h2 : ¬ (121 < (v 2))) (h3 : ¬ ((v 17) < 30)) (h4 : gsX_X6_refuse_1 NF v f = (0, v81, f82)) : gsX_X6_unit_3 NF v f = (0, v81, f82) := by
  simp only [gsX_X6_unit_3, stk_eq, if_neg h0, if_neg h1, if_neg h2, if_neg h3, h4, ite11, ite01, if_true, if_false]
