def gsY_X11_close_1_L1 (NF : Nat) (p1 : Int32) : Nat → (Nat → Int32) → (Nat → Nat → Int32) → (Int64) → (Nat → Int64) → (Nat → Int32) × (Nat → Nat → Int32) × (Int64) × (Nat → Int64)
  | 0, _, _, _, _ => ((fun _ => 0), (fun _ _ => 0), 0, (fun _ => 0))
  | n1 + 1, v1, f1, w1, g1 =>
    if (v1 10) ≤ 0 then
      (v1, f1, w1, g1)
    else
      let t3 : Int32 := (v1 10) - 1
      let t5 : Int32 := f1 6 (t3).toNatClampNeg
      if t5 = 20 then
        (v1, f1, w1, g1)
      else
        let r7 : Int32 := gsY_X11_tight_1 NF t5 v1 f1 w1 g1
        if r7 < p1 then
          (v1, f1, w1, g1)
        else
          if t5 = 21 then
            match gsY_X11_add_1 NF 2 0 (upd v1 10 t3) f1 w1 g1 with
            | (v25, f26, w27, g28) =>
              let t33 : Int32 := (v1 14) - 1
              gsY_X11_close_1_L1 NF p1 n1 (upd v25 14 t33) f26 w27 g28
          else
            match gsY_X11_add_1 NF 3 t5 (upd v1 10 t3) f1 w1 g1 with
            | (v16, f17, w18, g19) =>
              gsY_X11_close_1_L1 NF p1 n1 v16 f17 w18 g19
def gsY_X11_close_1 (NF : Nat) (p1 : Int32) (v : Nat → Int32) (f : Nat → Nat → Int32) (w : Int64) (g : Nat → Int64) : (Nat → Int32) × (Nat → Nat → Int32) × (Int64) × (Nat → Int64) :=
  gsY_X11_close_1_L1 NF p1 (4294967296 + NF) v f w g
theorem gsY_X11_close_1_q5 {NF : Nat} {p1 : Int32} {v : Nat → Int32} {f : Nat → Nat → Int32} {w : Int64} {g : Nat → Int64}  : gsY_X11_close_1 NF p1 v f w g = gsY_X11_close_1_L1 NF p1 (4294967296 + NF) v f w g := by
  simp only [gsY_X11_close_1]
theorem gsY_X11_close_1_q0 {NF : Nat} {p1 : Int32} {n1 : Nat} {v1 : Nat → Int32} {f1 : Nat → Nat → Int32} {w1 : Int64} {g1 : Nat → Int64} (h0 : ((v1 10) ≤ 0)) : gsY_X11_close_1_L1 NF p1 (n1 + 1) v1 f1 w1 g1 = (v1, f1, w1, g1) := by
  simp only [gsY_X11_close_1_L1, if_pos h0]
theorem gsY_X11_close_1_q1 {NF : Nat} {p1 : Int32} {n1 : Nat} {v1 : Nat → Int32} {f1 : Nat → Nat → Int32} {w1 : Int64} {g1 : Nat → Int64} {t3 : Int32} {t5 : Int32} (h0 : ¬ ((v1 10) ≤ 0)) (h1 : t3 = (v1 10) - 1) (h2 : t5 = f1 6 (t3).toNatClampNeg) (h3 : (t5 = 20)) : gsY_X11_close_1_L1 NF p1 (n1 + 1) v1 f1 w1 g1 = (v1, f1, w1, g1) := by
  subst h1 h2
  simp only [gsY_X11_close_1_L1, if_neg h0, if_pos h3]
theorem gsY_X11_close_1_q2 {NF : Nat} {p1 : Int32} {n1 : Nat} {v1 : Nat → Int32} {f1 : Nat → Nat → Int32} {w1 : Int64} {g1 : Nat → Int64} {t3 : Int32} {t5 : Int32} {r7 : Int32} (h0 : ¬ ((v1 10) ≤ 0)) (h1 : t3 = (v1 10) - 1) (h2 : t5 = f1 6 (t3).toNatClampNeg) (h3 : ¬ (t5 = 20)) (h4 : r7 = gsY_X11_tight_1 NF t5 v1 f1 w1 g1) (h5 : (r7 < p1)) : gsY_X11_close_1_L1 NF p1 (n1 + 1) v1 f1 w1 g1 = (v1, f1, w1, g1) := by
  subst h1 h2 h4
  simp only [gsY_X11_close_1_L1, if_neg h0, if_neg h3, if_pos h5]
theorem gsY_X11_close_1_q3 {NF : Nat} {p1 : Int32} {n1 : Nat} {v1 : Nat → Int32} {f1 : Nat → Nat → Int32} {w1 : Int64} {g1 : Nat → Int64} {t3 : Int32} {t5 : Int32} {r7 : Int32} {v16 : Nat → Int32} {f17 : Nat → Nat → Int32} {w18 : Int64} {g19 : Nat → Int64} (h0 : ¬ ((v1 10) ≤ 0)) (h1 : t3 = (v1 10) - 1) (h2 : t5 = f1 6 (t3).toNatClampNeg) (h3 : ¬ (t5 = 20)) (h4 : r7 = gsY_X11_tight_1 NF t5 v1 f1 w1 g1) (h5 : ¬ (r7 < p1)) (h6 : ¬ (t5 = 21)) (h7 : gsY_X11_add_1 NF 3 t5 (upd v1 10 t3) f1 w1 g1 = (v16, f17, w18, g19)) : gsY_X11_close_1_L1 NF p1 (n1 + 1) v1 f1 w1 g1 = gsY_X11_close_1_L1 NF p1 n1 v16 f17 w18 g19 := by
  subst h1 h2 h4
  simp only [gsY_X11_close_1_L1, if_neg h0, if_neg h3, if_neg h5, if_neg h6, h7]
theorem gsY_X11_close_1_q4 {NF : Nat} {p1 : Int32} {n1 : Nat} {v1 : Nat → Int32} {f1 : Nat → Nat → Int32} {w1 : Int64} {g1 : Nat → Int64} {t3 : Int32} {t5 : Int32} {r7 : Int32} {v25 : Nat → Int32} {f26 : Nat → Nat → Int32} {w27 : Int64} {g28 : Nat → Int64} {t33 : Int32} (h0 : ¬ ((v1 10) ≤ 0)) (h1 : t3 = (v1 10) - 1) (h2 : t5 = f1 6 (t3).toNatClampNeg) (h3 : ¬ (t5 = 20)) (h4 : r7 = gsY_X11_tight_1 NF t5 v1 f1 w1 g1) (h5 : ¬ (r7 < p1)) (h6 : (t5 = 21)) (h7 : gsY_X11_add_1 NF 2 0 (upd v1 10 t3) f1 w1 g1 = (v25, f26, w27, g28)) (h8 : t33 = (v1 14) - 1) : gsY_X11_close_1_L1 NF p1 (n1 + 1) v1 f1 w1 g1 = gsY_X11_close_1_L1 NF p1 n1 (upd v25 14 t33) f26 w27 g28 := by
  subst h1 h2 h4 h8
  simp only [gsY_X11_close_1_L1, if_neg h0, if_neg h3, if_neg h5, if_pos h6, h7]
def gsY_X11_hasBracket_1_L1 (NF : Nat) (v : Nat → Int32) (f : Nat → Nat → Int32) : Nat → (Int32) → (Int32) → Int32
  | 0, _, _ => 0
  | n1 + 1, l1_1, l2_1 =>
    if (v 10) ≤ l2_1 then
      l1_1
    else
      if l1_1 = 0 then
        let t11 : Int32 := f 6 (l2_1).toNatClampNeg
        if t11 = 20 then
          let t15 : Int32 := l2_1 + 1
          gsY_X11_hasBracket_1_L1 NF v f n1 1 t15
        else
          let t13 : Int32 := l2_1 + 1
          gsY_X11_hasBracket_1_L1 NF v f n1 0 t13
      else
        let t9 : Int32 := l2_1 + 1
        gsY_X11_hasBracket_1_L1 NF v f n1 1 t9
def gsY_X11_hasBracket_1 (NF : Nat) (v : Nat → Int32) (f : Nat → Nat → Int32) (w : Int64) (g : Nat → Int64) : Int32 :=
  gsY_X11_hasBracket_1_L1 NF v f (4294967296 + NF) 0 0
theorem gsY_X11_hasBracket_1_q4 {NF : Nat} {v : Nat → Int32} {f : Nat → Nat → Int32} {w : Int64} {g : Nat → Int64}  : gsY_X11_hasBracket_1 NF v f w g = gsY_X11_hasBracket_1_L1 NF v f (4294967296 + NF) 0 0 := by
  simp only [gsY_X11_hasBracket_1]
theorem gsY_X11_hasBracket_1_q0 {NF : Nat} {v : Nat → Int32} {f : Nat → Nat → Int32} {n1 : Nat} {l1_1 : Int32} {l2_1 : Int32} (h0 : ((v 10) ≤ l2_1)) : gsY_X11_hasBracket_1_L1 NF v f (n1 + 1) l1_1 l2_1 = l1_1 := by
  simp only [gsY_X11_hasBracket_1_L1, if_pos h0]
theorem gsY_X11_hasBracket_1_q1 {NF : Nat} {v : Nat → Int32} {f : Nat → Nat → Int32} {n1 : Nat} {l1_1 : Int32} {l2_1 : Int32} {t9 : Int32} (h0 : ¬ ((v 10) ≤ l2_1)) (h1 : ¬ (l1_1 = 0)) (h2 : t9 = l2_1 + 1) : gsY_X11_hasBracket_1_L1 NF v f (n1 + 1) l1_1 l2_1 = gsY_X11_hasBracket_1_L1 NF v f n1 1 t9 := by
  subst h2
  simp only [gsY_X11_hasBracket_1_L1, if_neg h0, if_neg h1]
theorem gsY_X11_hasBracket_1_q2 {NF : Nat} {v : Nat → Int32} {f : Nat → Nat → Int32} {n1 : Nat} {l1_1 : Int32} {l2_1 : Int32} {t11 : Int32} {t13 : Int32} (h0 : ¬ ((v 10) ≤ l2_1)) (h1 : (l1_1 = 0)) (h2 : t11 = f 6 (l2_1).toNatClampNeg) (h3 : ¬ (t11 = 20)) (h4 : t13 = l2_1 + 1) : gsY_X11_hasBracket_1_L1 NF v f (n1 + 1) l1_1 l2_1 = gsY_X11_hasBracket_1_L1 NF v f n1 0 t13 := by
  subst h2 h4
  simp only [gsY_X11_hasBracket_1_L1, if_neg h0, if_pos h1, if_neg h3]
theorem gsY_X11_hasBracket_1_q3 {NF : Nat} {v : Nat → Int32} {f : Nat → Nat → Int32} {n1 : Nat} {l1_1 : Int32} {l2_1 : Int32} {t11 : Int32} {t15 : Int32} (h0 : ¬ ((v 10) ≤ l2_1)) (h1 : (l1_1 = 0)) (h2 : t11 = f 6 (l2_1).toNatClampNeg) (h3 : (t11 = 20)) (h4 : t15 = l2_1 + 1) : gsY_X11_hasBracket_1_L1 NF v f (n1 + 1) l1_1 l2_1 = gsY_X11_hasBracket_1_L1 NF v f n1 1 t15 := by
  subst h2 h4
  simp only [gsY_X11_hasBracket_1_L1, if_neg h0, if_pos h1, if_pos h3]
def gsY_X11_sign_1 (NF : Nat) (v : Nat → Int32) (f : Nat → Nat → Int32) (w : Int64) (g : Nat → Int64) : Int32 :=
  if gsY_X11_isWord_1 NF (6385252 : Int64) v f w g = 1 then
    38
  else
    if gsY_X11_isWord_1 NF (28530 : Int64) v f w g = 1 then
      124
    else
      if (v 5) = 60 then
        (v 5)
      else
        if (v 5) = 62 then
          (v 5)
        else
          if (v 5) = 61 then
            (v 5)
          else
            if (v 5) = 43 then
              (v 5)
            else
              if (v 5) = 45 then
                (v 5)
              else
                if (v 5) = 42 then
                  (v 5)
                else
                  if (v 5) = 47 then
                    (v 5)
                  else
                    if (v 5) = 37 then
                      (v 5)
                    else
                      0
theorem gsY_X11_sign_1_q0 {NF : Nat} {v : Nat → Int32} {f : Nat → Nat → Int32} {w : Int64} {g : Nat → Int64} (h0 : gsY_X11_isWord_1 NF (6385252 : Int64) v f w g = 1) : gsY_X11_sign_1 NF v f w g = 38 := by
  simp only [gsY_X11_sign_1, h0, ite11, ite01, if_true, if_false]
theorem gsY_X11_sign_1_q1 {NF : Nat} {v : Nat → Int32} {f : Nat → Nat → Int32} {w : Int64} {g : Nat → Int64} (h0 : gsY_X11_isWord_1 NF (6385252 : Int64) v f w g = 0) (h1 : gsY_X11_isWord_1 NF (28530 : Int64) v f w g = 1) : gsY_X11_sign_1 NF v f w g = 124 := by
  simp only [gsY_X11_sign_1, h0, h1, ite11, ite01, if_true, if_false]
theorem gsY_X11_sign_1_q2 {NF : Nat} {v : Nat → Int32} {f : Nat → Nat → Int32} {w : Int64} {g : Nat → Int64} (h0 : gsY_X11_isWord_1 NF (6385252 : Int64) v f w g = 0) (h1 : gsY_X11_isWord_1 NF (28530 : Int64) v f w g = 0) (h2 : ((v 5) = 60)) : gsY_X11_sign_1 NF v f w g = (v 5) := by
  simp only [gsY_X11_sign_1, h0, h1, if_pos h2, ite11, ite01, if_true, if_false]
theorem gsY_X11_sign_1_q3 {NF : Nat} {v : Nat → Int32} {f : Nat → Nat → Int32} {w : Int64} {g : Nat → Int64} (h0 : gsY_X11_isWord_1 NF (6385252 : Int64) v f w g = 0) (h1 : gsY_X11_isWord_1 NF (28530 : Int64) v f w g = 0) (h2 : ¬ ((v 5) = 60)) (h3 : ((v 5) = 62)) : gsY_X11_sign_1 NF v f w g = (v 5) := by
  simp only [gsY_X11_sign_1, h0, h1, if_neg h2, if_pos h3, ite11, ite01, if_true, if_false]
theorem gsY_X11_sign_1_q4 {NF : Nat} {v : Nat → Int32} {f : Nat → Nat → Int32} {w : Int64} {g : Nat → Int64} (h0 : gsY_X11_isWord_1 NF (6385252 : Int64) v f w g = 0) (h1 : gsY_X11_isWord_1 NF (28530 : Int64) v f w g = 0) (h2 : ¬ ((v 5) = 60)) (h3 : ¬ ((v 5) = 62)) (h4 : ((v 5) = 61)) : gsY_X11_sign_1 NF v f w g = (v 5) := by
  simp only [gsY_X11_sign_1, h0, h1, if_neg h2, if_neg h3, if_pos h4, ite11, ite01, if_true, if_false]
theorem gsY_X11_sign_1_q5 {NF : Nat} {v : Nat → Int32} {f : Nat → Nat → Int32} {w : Int64} {g : Nat → Int64} (h0 : gsY_X11_isWord_1 NF (6385252 : Int64) v f w g = 0) (h1 : gsY_X11_isWord_1 NF (28530 : Int64) v f w g = 0) (h2 : ¬ ((v 5) = 60)) (h3 : ¬ ((v 5) = 62)) (h4 : ¬ ((v 5) = 61)) (h5 : ((v 5) = 43)) : gsY_X11_sign_1 NF v f w g = (v 5) := by
  simp only [gsY_X11_sign_1, h0, h1, if_neg h2, if_neg h3, if_neg h4, if_pos h5, ite11, ite01, if_true, if_false]
theorem gsY_X11_sign_1_q6 {NF : Nat} {v : Nat → Int32} {f : Nat → Nat → Int32} {w : Int64} {g : Nat → Int64} (h0 : gsY_X11_isWord_1 NF (6385252 : Int64) v f w g = 0) (h1 : gsY_X11_isWord_1 NF (28530 : Int64) v f w g = 0) (h2 : ¬ ((v 5) = 60)) (h3 : ¬ ((v 5) = 62)) (h4 : ¬ ((v 5) = 61)) (h5 : ¬ ((v 5) = 43)) (h6 : ((v 5) = 45)) : gsY_X11_sign_1 NF v f w g = (v 5) := by
  simp only [gsY_X11_sign_1, h0, h1, if_neg h2, if_neg h3, if_neg h4, if_neg h5, if_pos h6, ite11, ite01, if_true, if_false]
theorem gsY_X11_sign_1_q7 {NF : Nat} {v : Nat → Int32} {f : Nat → Nat → Int32} {w : Int64} {g : Nat → Int64} (h0 : gsY_X11_isWord_1 NF (6385252 : Int64) v f w g = 0) (h1 : gsY_X11_isWord_1 NF (28530 : Int64) v f w g = 0) (h2 : ¬ ((v 5) = 60)) (h3 : ¬ ((v 5) = 62)) (h4 : ¬ ((v 5) = 61)) (h5 : ¬ ((v 5) = 43)) (h6 : ¬ ((v 5) = 45)) (h7 : ((v 5) = 42)) : gsY_X11_sign_1 NF v f w g = (v 5) := by
  simp only [gsY_X11_sign_1, h0, h1, if_neg h2, if_neg h3, if_neg h4, if_neg h5, if_neg h6, if_pos h7, ite11, ite01, if_true, if_false]
theorem gsY_X11_sign_1_q8 {NF : Nat} {v : Nat → Int32} {f : Nat → Nat → Int32} {w : Int64} {g : Nat → Int64} (h0 : gsY_X11_isWord_1 NF (6385252 : Int64) v f w g = 0) (h1 : gsY_X11_isWord_1 NF (28530 : Int64) v f w g = 0) (h2 : ¬ ((v 5) = 60)) (h3 : ¬ ((v 5) = 62)) (h4 : ¬ ((v 5) = 61)) (h5 : ¬ ((v 5) = 43)) (h6 : ¬ ((v 5) = 45)) (h7 : ¬ ((v 5) = 42)) (h8 : ((v 5) = 47)) : gsY_X11_sign_1 NF v f w g = (v 5) := by
  simp only [gsY_X11_sign_1, h0, h1, if_neg h2, if_neg h3, if_neg h4, if_neg h5, if_neg h6, if_neg h7, if_pos h8, ite11, ite01, if_true, if_false]
theorem gsY_X11_sign_1_q9 {NF : Nat} {v : Nat → Int32} {f : Nat → Nat → Int32} {w : Int64} {g : Nat → Int64} (h0 : gsY_X11_isWord_1 NF (6385252 : Int64) v f w g = 0) (h1 : gsY_X11_isWord_1 NF (28530 : Int64) v f w g = 0) (h2 : ¬ ((v 5) = 60)) (h3 : ¬ ((v 5) = 62)) (h4 : ¬ ((v 5) = 61)) (h5 : ¬ ((v 5) = 43)) (h6 : ¬ ((v 5) = 45)) (h7 : ¬ ((v 5) = 42)) (h8 : ¬ ((v 5) = 47)) (h9 : ¬ ((v 5) = 37)) : gsY_X11_sign_1 NF v f w g = 0 := by
  simp only [gsY_X11_sign_1, h0, h1, if_neg h2, if_neg h3, if_neg h4, if_neg h5, if_neg h6, if_neg h7, if_neg h8, if_neg h9, ite11, ite01, if_true, if_false]
theorem gsY_X11_sign_1_q10 {NF : Nat} {v : Nat → Int32} {f : Nat → Nat → Int32} {w : Int64} {g : Nat → Int64} (h0 : gsY_X11_isWord_1 NF (6385252 : Int64) v f w g = 0) (h1 : gsY_X11_isWord_1 NF (28530 : Int64) v f w g = 0) (h2 : ¬ ((v 5) = 60)) (h3 : ¬ ((v 5) = 62)) (h4 : ¬ ((v 5) = 61)) (h5 : ¬ ((v 5) = 43)) (h6 : ¬ ((v 5) = 45)) (h7 : ¬ ((v 5) = 42)) (h8 : ¬ ((v 5) = 47)) (h9 : ((v 5) = 37)) : gsY_X11_sign_1 NF v f w g = (v 5) := by
  simp only [gsY_X11_sign_1, h0, h1, if_neg h2, if_neg h3, if_neg h4, if_neg h5, if_neg h6, if_neg h7, if_neg h8, if_pos h9, ite11, ite01, if_true, if_false]
def gsY_X11_hasRelation_1_L3 (NF : Nat) (v : Nat → Int32) (f : Nat → Nat → Int32) (w : Int64) (g : Nat → Int64) : Nat → (Int32) → Int32
  | 0, _ => 0
  | n3 + 1, l1_3 =>
    if l1_3 < 0 then
      if l1_3 < 0 then
        0
      else
        let t6 : Int32 := f 6 (l1_3).toNatClampNeg
        if t6 = 20 then
          0
        else
          let r8 : Int32 := gsY_X11_tight_1 NF t6 v f w g
          if r8 = 4 then
            1
          else
            0
    else
      let t11 : Int32 := f 6 (l1_3).toNatClampNeg
      if t11 = 20 then
        if l1_3 < 0 then
          0
        else
          if t11 = 20 then
            0
          else
            let r15 : Int32 := gsY_X11_tight_1 NF t11 v f w g
            if r15 = 4 then
              1
            else
              0
      else
        let r18 : Int32 := gsY_X11_tight_1 NF t11 v f w g
        if r18 ≤ 4 then
          if l1_3 < 0 then
            0
          else
            if t11 = 20 then
              0
            else
              let r23 : Int32 := gsY_X11_tight_1 NF t11 v f w g
              if r23 = 4 then
                1
              else
                0
        else
          let t26 : Int32 := l1_3 + (-1)
          gsY_X11_hasRelation_1_L3 NF v f w g n3 t26
def gsY_X11_hasRelation_1 (NF : Nat) (v : Nat → Int32) (f : Nat → Nat → Int32) (w : Int64) (g : Nat → Int64) : Int32 :=
  let t1 : Int32 := (v 10) - 1
  gsY_X11_hasRelation_1_L3 NF v f w g (4294967296 + NF) t1
theorem gsY_X11_hasRelation_1_q13 {NF : Nat} {v : Nat → Int32} {f : Nat → Nat → Int32} {w : Int64} {g : Nat → Int64} {t1 : Int32} (h0 : t1 = (v 10) - 1) : gsY_X11_hasRelation_1 NF v f w g = gsY_X11_hasRelation_1_L3 NF v f w g (4294967296 + NF) t1 := by
  subst h0
  simp only [gsY_X11_hasRelation_1]
theorem gsY_X11_hasRelation_1_q0 {NF : Nat} {v : Nat → Int32} {f : Nat → Nat → Int32} {w : Int64} {g : Nat → Int64} {n3 : Nat} {l1_3 : Int32} (h0 : (l1_3 < 0)) (h1 : (l1_3 < 0)) : gsY_X11_hasRelation_1_L3 NF v f w g (n3 + 1) l1_3 = 0 := by
  simp only [gsY_X11_hasRelation_1_L3, if_pos h0, if_pos h1]
theorem gsY_X11_hasRelation_1_q1 {NF : Nat} {v : Nat → Int32} {f : Nat → Nat → Int32} {w : Int64} {g : Nat → Int64} {n3 : Nat} {l1_3 : Int32} {t6 : Int32} (h0 : (l1_3 < 0)) (h1 : ¬ (l1_3 < 0)) (h2 : t6 = f 6 (l1_3).toNatClampNeg) (h3 : (t6 = 20)) : gsY_X11_hasRelation_1_L3 NF v f w g (n3 + 1) l1_3 = 0 := by
  exact absurd h0 h1
theorem gsY_X11_hasRelation_1_q2 {NF : Nat} {v : Nat → Int32} {f : Nat → Nat → Int32} {w : Int64} {g : Nat → Int64} {n3 : Nat} {l1_3 : Int32} {t6 : Int32} {r8 : Int32} (h0 : (l1_3 < 0)) (h1 : ¬ (l1_3 < 0)) (h2 : t6 = f 6 (l1_3).toNatClampNeg) (h3 : ¬ (t6 = 20)) (h4 : r8 = gsY_X11_tight_1 NF t6 v f w g) (h5 : ¬ (r8 = 4)) : gsY_X11_hasRelation_1_L3 NF v f w g (n3 + 1) l1_3 = 0 := by
  exact absurd h0 h1
theorem gsY_X11_hasRelation_1_q3 {NF : Nat} {v : Nat → Int32} {f : Nat → Nat → Int32} {w : Int64} {g : Nat → Int64} {n3 : Nat} {l1_3 : Int32} {t6 : Int32} {r8 : Int32} (h0 : (l1_3 < 0)) (h1 : ¬ (l1_3 < 0)) (h2 : t6 = f 6 (l1_3).toNatClampNeg) (h3 : ¬ (t6 = 20)) (h4 : r8 = gsY_X11_tight_1 NF t6 v f w g) (h5 : (r8 = 4)) : gsY_X11_hasRelation_1_L3 NF v f w g (n3 + 1) l1_3 = 1 := by
  exact absurd h0 h1
theorem gsY_X11_hasRelation_1_q4 {NF : Nat} {v : Nat → Int32} {f : Nat → Nat → Int32} {w : Int64} {g : Nat → Int64} {n3 : Nat} {l1_3 : Int32} {t11 : Int32} (h0 : ¬ (l1_3 < 0)) (h1 : t11 = f 6 (l1_3).toNatClampNeg) (h2 : (t11 = 20)) (h3 : (l1_3 < 0)) : gsY_X11_hasRelation_1_L3 NF v f w g (n3 + 1) l1_3 = 0 := by
  exact absurd h3 h0
theorem gsY_X11_hasRelation_1_q5 {NF : Nat} {v : Nat → Int32} {f : Nat → Nat → Int32} {w : Int64} {g : Nat → Int64} {n3 : Nat} {l1_3 : Int32} {t11 : Int32} (h0 : ¬ (l1_3 < 0)) (h1 : t11 = f 6 (l1_3).toNatClampNeg) (h2 : (t11 = 20)) (h3 : ¬ (l1_3 < 0)) (h4 : (t11 = 20)) : gsY_X11_hasRelation_1_L3 NF v f w g (n3 + 1) l1_3 = 0 := by
  subst h1
  simp only [gsY_X11_hasRelation_1_L3, if_neg h0, if_pos h2, if_neg h3, if_pos h4]
theorem gsY_X11_hasRelation_1_q6 {NF : Nat} {v : Nat → Int32} {f : Nat → Nat → Int32} {w : Int64} {g : Nat → Int64} {n3 : Nat} {l1_3 : Int32} {t11 : Int32} {r15 : Int32} (h0 : ¬ (l1_3 < 0)) (h1 : t11 = f 6 (l1_3).toNatClampNeg) (h2 : (t11 = 20)) (h3 : ¬ (l1_3 < 0)) (h4 : ¬ (t11 = 20)) (h5 : r15 = gsY_X11_tight_1 NF t11 v f w g) (h6 : ¬ (r15 = 4)) : gsY_X11_hasRelation_1_L3 NF v f w g (n3 + 1) l1_3 = 0 := by
  exact absurd h2 h4
theorem gsY_X11_hasRelation_1_q7 {NF : Nat} {v : Nat → Int32} {f : Nat → Nat → Int32} {w : Int64} {g : Nat → Int64} {n3 : Nat} {l1_3 : Int32} {t11 : Int32} {r15 : Int32} (h0 : ¬ (l1_3 < 0)) (h1 : t11 = f 6 (l1_3).toNatClampNeg) (h2 : (t11 = 20)) (h3 : ¬ (l1_3 < 0)) (h4 : ¬ (t11 = 20)) (h5 : r15 = gsY_X11_tight_1 NF t11 v f w g) (h6 : (r15 = 4)) : gsY_X11_hasRelation_1_L3 NF v f w g (n3 + 1) l1_3 = 1 := by
  exact absurd h2 h4
theorem gsY_X11_hasRelation_1_q8 {NF : Nat} {v : Nat → Int32} {f : Nat → Nat → Int32} {w : Int64} {g : Nat → Int64} {n3 : Nat} {l1_3 : Int32} {t11 : Int32} {r18 : Int32} (h0 : ¬ (l1_3 < 0)) (h1 : t11 = f 6 (l1_3).toNatClampNeg) (h2 : ¬ (t11 = 20)) (h3 : r18 = gsY_X11_tight_1 NF t11 v f w g) (h4 : (r18 ≤ 4)) (h5 : (l1_3 < 0)) : gsY_X11_hasRelation_1_L3 NF v f w g (n3 + 1) l1_3 = 0 := by
  exact absurd h5 h0
theorem gsY_X11_hasRelation_1_q9 {NF : Nat} {v : Nat → Int32} {f : Nat → Nat → Int32} {w : Int64} {g : Nat → Int64} {n3 : Nat} {l1_3 : Int32} {t11 : Int32} {r18 : Int32} (h0 : ¬ (l1_3 < 0)) (h1 : t11 = f 6 (l1_3).toNatClampNeg) (h2 : ¬ (t11 = 20)) (h3 : r18 = gsY_X11_tight_1 NF t11 v f w g) (h4 : (r18 ≤ 4)) (h5 : ¬ (l1_3 < 0)) (h6 : (t11 = 20)) : gsY_X11_hasRelation_1_L3 NF v f w g (n3 + 1) l1_3 = 0 := by
  exact absurd h6 h2
theorem gsY_X11_hasRelation_1_q10 {NF : Nat} {v : Nat → Int32} {f : Nat → Nat → Int32} {w : Int64} {g : Nat → Int64} {n3 : Nat} {l1_3 : Int32} {t11 : Int32} {r18 : Int32} {r23 : Int32} (h0 : ¬ (l1_3 < 0)) (h1 : t11 = f 6 (l1_3).toNatClampNeg) (h2 : ¬ (t11 = 20)) (h3 : r18 = gsY_X11_tight_1 NF t11 v f w g) (h4 : (r18 ≤ 4)) (h5 : ¬ (l1_3 < 0)) (h6 : ¬ (t11 = 20)) (h7 : r23 = gsY_X11_tight_1 NF t11 v f w g) (h8 : ¬ (r23 = 4)) : gsY_X11_hasRelation_1_L3 NF v f w g (n3 + 1) l1_3 = 0 := by
  subst h1 h3 h7
  simp only [gsY_X11_hasRelation_1_L3, if_neg h0, if_neg h2, if_pos h4, if_neg h5, if_neg h6, if_neg h8]
theorem gsY_X11_hasRelation_1_q11 {NF : Nat} {v : Nat → Int32} {f : Nat → Nat → Int32} {w : Int64} {g : Nat → Int64} {n3 : Nat} {l1_3 : Int32} {t11 : Int32} {r18 : Int32} {r23 : Int32} (h0 : ¬ (l1_3 < 0)) (h1 : t11 = f 6 (l1_3).toNatClampNeg) (h2 : ¬ (t11 = 20)) (h3 : r18 = gsY_X11_tight_1 NF t11 v f w g) (h4 : (r18 ≤ 4)) (h5 : ¬ (l1_3 < 0)) (h6 : ¬ (t11 = 20)) (h7 : r23 = gsY_X11_tight_1 NF t11 v f w g) (h8 : (r23 = 4)) : gsY_X11_hasRelation_1_L3 NF v f w g (n3 + 1) l1_3 = 1 := by
  subst h1 h3 h7
  simp only [gsY_X11_hasRelation_1_L3, if_neg h0, if_neg h2, if_pos h4, if_neg h5, if_neg h6, if_pos h8]
theorem gsY_X11_hasRelation_1_q12 {NF : Nat} {v : Nat → Int32} {f : Nat → Nat → Int32} {w : Int64} {g : Nat → Int64} {n3 : Nat} {l1_3 : Int32} {t11 : Int32} {r18 : Int32} {t26 : Int32} (h0 : ¬ (l1_3 < 0)) (h1 : t11 = f 6 (l1_3).toNatClampNeg) (h2 : ¬ (t11 = 20)) (h3 : r18 = gsY_X11_tight_1 NF t11 v f w g) (h4 : ¬ (r18 ≤ 4)) (h5 : t26 = l1_3 + (-1)) : gsY_X11_hasRelation_1_L3 NF v f w g (n3 + 1) l1_3 = gsY_X11_hasRelation_1_L3 NF v f w g n3 t26 := by
  subst h1 h3 h5
  simp only [gsY_X11_hasRelation_1_L3, if_neg h0, if_neg h2, if_neg h4]
