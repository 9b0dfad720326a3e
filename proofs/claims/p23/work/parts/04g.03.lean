def gsY_X11_isCoat_1 (NF : Nat) (p1 : Int32) (v : Nat → Int32) (f : Nat → Nat → Int32) (w : Int64) (g : Nat → Int64) : Int32 :=
  let t1 : Int32 := (v 25) - 1
  if gsY_X11_isIn_1 NF p1 0 t1 v f w g = 1 then
    1
  else
    0
theorem gsY_X11_isCoat_1_q0 {NF : Nat} {p1 : Int32} {v : Nat → Int32} {f : Nat → Nat → Int32} {w : Int64} {g : Nat → Int64} {t1 : Int32} (h0 : t1 = (v 25) - 1) (h1 : gsY_X11_isIn_1 NF p1 0 t1 v f w g = 1) : gsY_X11_isCoat_1 NF p1 v f w g = 1 := by
  subst h0
  simp only [gsY_X11_isCoat_1, h1, ite11, ite01, if_true, if_false]
theorem gsY_X11_isCoat_1_q1 {NF : Nat} {p1 : Int32} {v : Nat → Int32} {f : Nat → Nat → Int32} {w : Int64} {g : Nat → Int64} {t1 : Int32} (h0 : t1 = (v 25) - 1) (h1 : gsY_X11_isIn_1 NF p1 0 t1 v f w g = 0) : gsY_X11_isCoat_1 NF p1 v f w g = 0 := by
  subst h0
  simp only [gsY_X11_isCoat_1, h1, ite11, ite01, if_true, if_false]
def gsY_X11_over_1 (NF : Nat) (p0 : Int32) (p1 : Int32) (v : Nat → Int32) (f : Nat → Nat → Int32) (w : Int64) (g : Nat → Int64) : Int32 :=
  if p0 ≤ p1 then
    0
  else
    let t6 : Int32 := p0 - p1
    t6
theorem gsY_X11_over_1_q0 {NF : Nat} {p0 : Int32} {p1 : Int32} {v : Nat → Int32} {f : Nat → Nat → Int32} {w : Int64} {g : Nat → Int64} (h0 : (p0 ≤ p1)) : gsY_X11_over_1 NF p0 p1 v f w g = 0 := by
  simp only [gsY_X11_over_1, if_pos h0]
theorem gsY_X11_over_1_q1 {NF : Nat} {p0 : Int32} {p1 : Int32} {v : Nat → Int32} {f : Nat → Nat → Int32} {w : Int64} {g : Nat → Int64} {t6 : Int32} (h0 : ¬ (p0 ≤ p1)) (h1 : t6 = p0 - p1) : gsY_X11_over_1 NF p0 p1 v f w g = t6 := by
  subst h1
  simp only [gsY_X11_over_1, if_neg h0]
def gsY_X11_within_1 (NF : Nat) (p0 : Int32) (p1 : Int32) (v : Nat → Int32) (f : Nat → Nat → Int32) (w : Int64) (g : Nat → Int64) : Int32 :=
  if 0 ≤ p0 then
    if p0 ≤ p1 then
      p0
    else
      p1
  else
    0
theorem gsY_X11_within_1_q0 {NF : Nat} {p0 : Int32} {p1 : Int32} {v : Nat → Int32} {f : Nat → Nat → Int32} {w : Int64} {g : Nat → Int64} (h0 : (0 ≤ p0)) (h1 : (p0 ≤ p1)) : gsY_X11_within_1 NF p0 p1 v f w g = p0 := by
  simp only [gsY_X11_within_1, if_pos h0, if_pos h1]
theorem gsY_X11_within_1_q1 {NF : Nat} {p0 : Int32} {p1 : Int32} {v : Nat → Int32} {f : Nat → Nat → Int32} {w : Int64} {g : Nat → Int64} (h0 : (0 ≤ p0)) (h1 : ¬ (p0 ≤ p1)) : gsY_X11_within_1 NF p0 p1 v f w g = p1 := by
  simp only [gsY_X11_within_1, if_pos h0, if_neg h1]
theorem gsY_X11_within_1_q2 {NF : Nat} {p0 : Int32} {p1 : Int32} {v : Nat → Int32} {f : Nat → Nat → Int32} {w : Int64} {g : Nat → Int64} (h0 : ¬ (0 ≤ p0)) : gsY_X11_within_1 NF p0 p1 v f w g = 0 := by
  simp only [gsY_X11_within_1, if_neg h0]
def gsY_X11_truth_1 (NF : Nat) (p0 : Int32) (v : Nat → Int32) (f : Nat → Nat → Int32) (w : Int64) (g : Nat → Int64) : Int32 :=
  if p0 = 0 then
    0
  else
    1
theorem gsY_X11_truth_1_q0 {NF : Nat} {p0 : Int32} {v : Nat → Int32} {f : Nat → Nat → Int32} {w : Int64} {g : Nat → Int64} (h0 : (p0 = 0)) : gsY_X11_truth_1 NF p0 v f w g = 0 := by
  simp only [gsY_X11_truth_1, if_pos h0]
theorem gsY_X11_truth_1_q1 {NF : Nat} {p0 : Int32} {v : Nat → Int32} {f : Nat → Nat → Int32} {w : Int64} {g : Nat → Int64} (h0 : ¬ (p0 = 0)) : gsY_X11_truth_1 NF p0 v f w g = 1 := by
  simp only [gsY_X11_truth_1, if_neg h0]
def gsY_X11_done_1 (NF : Nat) (p0 : Int32) (p1 : Int32) (p2 : Int32) (v : Nat → Int32) (f : Nat → Nat → Int32) (w : Int64) (g : Nat → Int64) : Int32 :=
  if p0 = 37 then
    if p2 = 0 then
      0
    else
      let t3 : Int32 := p1 - p1 / p2 * p2
      t3
  else
    if p0 = 38 then
      if p1 = 0 then
        let r7 : Int32 := gsY_X11_truth_1 NF 0 v f w g
        r7
      else
        if p2 = 0 then
          let r11 : Int32 := gsY_X11_truth_1 NF 0 v f w g
          r11
        else
          let r14 : Int32 := gsY_X11_truth_1 NF 1 v f w g
          r14
    else
      if p0 = 39 then
        if p1 = 0 then
          if p2 = 0 then
            let r23 : Int32 := gsY_X11_truth_1 NF 0 v f w g
            r23
          else
            let r26 : Int32 := gsY_X11_truth_1 NF 1 v f w g
            r26
        else
          let r19 : Int32 := gsY_X11_truth_1 NF 1 v f w g
          r19
      else
        if p0 = 40 then
          if p1 = 0 then
            if p2 = 0 then
              let r35 : Int32 := gsY_X11_truth_1 NF 0 v f w g
              r35
            else
              let r38 : Int32 := gsY_X11_truth_1 NF 1 v f w g
              r38
          else
            let r31 : Int32 := gsY_X11_truth_1 NF 1 v f w g
            r31
        else
          if p0 = 41 then
            if p1 = 0 then
              if p2 = 0 then
                let r47 : Int32 := gsY_X11_truth_1 NF 0 v f w g
                r47
              else
                let r50 : Int32 := gsY_X11_truth_1 NF 1 v f w g
                r50
            else
              let r43 : Int32 := gsY_X11_truth_1 NF 1 v f w g
              r43
          else
            if p0 = 42 then
              let t53 : Int32 := p1 * p2
              t53
            else
              if p0 = 43 then
                let t55 : Int32 := p1 + p2
                t55
              else
                if p0 = 44 then
                  if p1 = 0 then
                    if p2 = 0 then
                      let r63 : Int32 := gsY_X11_truth_1 NF 0 v f w g
                      r63
                    else
                      let r66 : Int32 := gsY_X11_truth_1 NF 1 v f w g
                      r66
                  else
                    let r59 : Int32 := gsY_X11_truth_1 NF 1 v f w g
                    r59
                else
                  if p0 = 45 then
                    let t69 : Int32 := p1 - p2
                    t69
                  else
                    if p0 = 46 then
                      if p1 = 0 then
                        if p2 = 0 then
                          let r77 : Int32 := gsY_X11_truth_1 NF 0 v f w g
                          r77
                        else
                          let r80 : Int32 := gsY_X11_truth_1 NF 1 v f w g
                          r80
                      else
                        let r73 : Int32 := gsY_X11_truth_1 NF 1 v f w g
                        r73
                    else
                      if p0 = 47 then
                        if p2 = 0 then
                          0
                        else
                          let t84 : Int32 := p1 / p2
                          t84
                      else
                        if p0 = 48 then
                          if p1 = 0 then
                            if p2 = 0 then
                              let r92 : Int32 := gsY_X11_truth_1 NF 0 v f w g
                              r92
                            else
                              let r95 : Int32 := gsY_X11_truth_1 NF 1 v f w g
                              r95
                          else
                            let r88 : Int32 := gsY_X11_truth_1 NF 1 v f w g
                            r88
                        else
                          if p0 = 49 then
                            if p1 = 0 then
                              if p2 = 0 then
                                let r104 : Int32 := gsY_X11_truth_1 NF 0 v f w g
                                r104
                              else
                                let r107 : Int32 := gsY_X11_truth_1 NF 1 v f w g
                                r107
                            else
                              let r100 : Int32 := gsY_X11_truth_1 NF 1 v f w g
                              r100
                          else
                            if p0 = 50 then
                              if p1 = 0 then
                                if p2 = 0 then
                                  let r116 : Int32 := gsY_X11_truth_1 NF 0 v f w g
                                  r116
                                else
                                  let r119 : Int32 := gsY_X11_truth_1 NF 1 v f w g
                                  r119
                              else
                                let r112 : Int32 := gsY_X11_truth_1 NF 1 v f w g
                                r112
                            else
                              if p0 = 51 then
                                if p1 = 0 then
                                  if p2 = 0 then
                                    let r128 : Int32 := gsY_X11_truth_1 NF 0 v f w g
                                    r128
                                  else
                                    let r131 : Int32 := gsY_X11_truth_1 NF 1 v f w g
                                    r131
                                else
                                  let r124 : Int32 := gsY_X11_truth_1 NF 1 v f w g
                                  r124
                              else
                                if p0 = 52 then
                                  if p1 = 0 then
                                    if p2 = 0 then
                                      let r140 : Int32 := gsY_X11_truth_1 NF 0 v f w g
                                      r140
                                    else
                                      let r143 : Int32 := gsY_X11_truth_1 NF 1 v f w g
                                      r143
                                  else
                                    let r136 : Int32 := gsY_X11_truth_1 NF 1 v f w g
                                    r136
                                else
                                  if p0 = 53 then
                                    if p1 = 0 then
                                      if p2 = 0 then
                                        let r152 : Int32 := gsY_X11_truth_1 NF 0 v f w g
                                        r152
                                      else
                                        let r155 : Int32 := gsY_X11_truth_1 NF 1 v f w g
                                        r155
                                    else
                                      let r148 : Int32 := gsY_X11_truth_1 NF 1 v f w g
                                      r148
                                  else
                                    if p0 = 54 then
                                      if p1 = 0 then
                                        if p2 = 0 then
                                          let r164 : Int32 := gsY_X11_truth_1 NF 0 v f w g
                                          r164
                                        else
                                          let r167 : Int32 := gsY_X11_truth_1 NF 1 v f w g
                                          r167
                                      else
                                        let r160 : Int32 := gsY_X11_truth_1 NF 1 v f w g
                                        r160
                                    else
                                      if p0 = 55 then
                                        if p1 = 0 then
                                          if p2 = 0 then
                                            let r176 : Int32 := gsY_X11_truth_1 NF 0 v f w g
                                            r176
                                          else
                                            let r179 : Int32 := gsY_X11_truth_1 NF 1 v f w g
                                            r179
                                        else
                                          let r172 : Int32 := gsY_X11_truth_1 NF 1 v f w g
                                          r172
                                      else
                                        if p0 = 56 then
                                          if p1 = 0 then
                                            if p2 = 0 then
                                              let r188 : Int32 := gsY_X11_truth_1 NF 0 v f w g
                                              r188
                                            else
                                              let r191 : Int32 := gsY_X11_truth_1 NF 1 v f w g
                                              r191
                                          else
                                            let r184 : Int32 := gsY_X11_truth_1 NF 1 v f w g
                                            r184
                                        else
                                          if p0 = 57 then
                                            if p1 = 0 then
                                              if p2 = 0 then
                                                let r200 : Int32 := gsY_X11_truth_1 NF 0 v f w g
                                                r200
                                              else
                                                let r203 : Int32 := gsY_X11_truth_1 NF 1 v f w g
                                                r203
                                            else
                                              let r196 : Int32 := gsY_X11_truth_1 NF 1 v f w g
                                              r196
                                          else
                                            if p0 = 58 then
                                              if p1 = 0 then
                                                if p2 = 0 then
                                                  let r212 : Int32 := gsY_X11_truth_1 NF 0 v f w g
                                                  r212
                                                else
                                                  let r215 : Int32 := gsY_X11_truth_1 NF 1 v f w g
                                                  r215
                                              else
                                                let r208 : Int32 := gsY_X11_truth_1 NF 1 v f w g
                                                r208
                                            else
                                              if p0 = 59 then
                                                if p1 = 0 then
                                                  if p2 = 0 then
                                                    let r224 : Int32 := gsY_X11_truth_1 NF 0 v f w g
                                                    r224
                                                  else
                                                    let r227 : Int32 := gsY_X11_truth_1 NF 1 v f w g
                                                    r227
                                                else
                                                  let r220 : Int32 := gsY_X11_truth_1 NF 1 v f w g
                                                  r220
                                              else
                                                if p0 = 60 then
                                                  if p2 ≤ p1 then
                                                    let r234 : Int32 := gsY_X11_truth_1 NF 0 v f w g
                                                    r234
                                                  else
                                                    let r239 : Int32 := gsY_X11_truth_1 NF 1 v f w g
                                                    r239
                                                else
                                                  if p0 = 61 then
                                                    if p1 = p2 then
                                                      let r251 : Int32 := gsY_X11_truth_1 NF 1 v f w g
                                                      r251
                                                    else
                                                      let r246 : Int32 := gsY_X11_truth_1 NF 0 v f w g
                                                      r246
                                                  else
                                                    if p0 = 62 then
                                                      if p1 ≤ p2 then
                                                        let r258 : Int32 := gsY_X11_truth_1 NF 0 v f w g
                                                        r258
                                                      else
                                                        let r263 : Int32 := gsY_X11_truth_1 NF 1 v f w g
                                                        r263
                                                    else
                                                      if p1 = 0 then
                                                        if p2 = 0 then
                                                          let r271 : Int32 := gsY_X11_truth_1 NF 0 v f w g
                                                          r271
                                                        else
                                                          let r274 : Int32 := gsY_X11_truth_1 NF 1 v f w g
                                                          r274
                                                      else
                                                        let r267 : Int32 := gsY_X11_truth_1 NF 1 v f w g
                                                        r267
theorem gsY_X11_done_1_q0 {NF : Nat} {p0 : Int32} {p1 : Int32} {p2 : Int32} {v : Nat → Int32} {f : Nat → Nat → Int32} {w : Int64} {g : Nat → Int64} {t3 : Int32} (h0 : (p0 = 37)) (h1 : ¬ (p2 = 0)) (h2 : t3 = p1 - p1 / p2 * p2) : gsY_X11_done_1 NF p0 p1 p2 v f w g = t3 := by
  subst h2
  simp only [gsY_X11_done_1, if_pos h0, if_neg h1]
theorem gsY_X11_done_1_q1 {NF : Nat} {p0 : Int32} {p1 : Int32} {p2 : Int32} {v : Nat → Int32} {f : Nat → Nat → Int32} {w : Int64} {g : Nat → Int64} (h0 : (p0 = 37)) (h1 : (p2 = 0)) : gsY_X11_done_1 NF p0 p1 p2 v f w g = 0 := by
  simp only [gsY_X11_done_1, if_pos h0, if_pos h1]
theorem gsY_X11_done_1_q2 {NF : Nat} {p0 : Int32} {p1 : Int32} {p2 : Int32} {v : Nat → Int32} {f : Nat → Nat → Int32} {w : Int64} {g : Nat → Int64} {r7 : Int32} (h0 : ¬ (p0 = 37)) (h1 : (p0 = 38)) (h2 : (p1 = 0)) (h3 : r7 = gsY_X11_truth_1 NF 0 v f w g) : gsY_X11_done_1 NF p0 p1 p2 v f w g = r7 := by
  subst h3
  simp only [gsY_X11_done_1, if_neg h0, if_pos h1, if_pos h2]
theorem gsY_X11_done_1_q3 {NF : Nat} {p0 : Int32} {p1 : Int32} {p2 : Int32} {v : Nat → Int32} {f : Nat → Nat → Int32} {w : Int64} {g : Nat → Int64} {r11 : Int32} (h0 : ¬ (p0 = 37)) (h1 : (p0 = 38)) (h2 : ¬ (p1 = 0)) (h3 : (p2 = 0)) (h4 : r11 = gsY_X11_truth_1 NF 0 v f w g) : gsY_X11_done_1 NF p0 p1 p2 v f w g = r11 := by
  subst h4
  simp only [gsY_X11_done_1, if_neg h0, if_pos h1, if_neg h2, if_pos h3]
theorem gsY_X11_done_1_q4 {NF : Nat} {p0 : Int32} {p1 : Int32} {p2 : Int32} {v : Nat → Int32} {f : Nat → Nat → Int32} {w : Int64} {g : Nat → Int64} {r14 : Int32} (h0 : ¬ (p0 = 37)) (h1 : (p0 = 38)) (h2 : ¬ (p1 = 0)) (h3 : ¬ (p2 = 0)) (h4 : r14 = gsY_X11_truth_1 NF 1 v f w g) : gsY_X11_done_1 NF p0 p1 p2 v f w g = r14 := by
  subst h4
  simp only [gsY_X11_done_1, if_neg h0, if_pos h1, if_neg h2, if_neg h3]
theorem gsY_X11_done_1_q5 {NF : Nat} {p0 : Int32} {p1 : Int32} {p2 : Int32} {v : Nat → Int32} {f : Nat → Nat → Int32} {w : Int64} {g : Nat → Int64} {r19 : Int32} (h0 : ¬ (p0 = 37)) (h1 : ¬ (p0 = 38)) (h2 : (p0 = 39)) (h3 : ¬ (p1 = 0)) (h4 : r19 = gsY_X11_truth_1 NF 1 v f w g) : gsY_X11_done_1 NF p0 p1 p2 v f w g = r19 := by
  subst h4
  simp only [gsY_X11_done_1, if_neg h0, if_neg h1, if_pos h2, if_neg h3]
theorem gsY_X11_done_1_q6 {NF : Nat} {p0 : Int32} {p1 : Int32} {p2 : Int32} {v : Nat → Int32} {f : Nat → Nat → Int32} {w : Int64} {g : Nat → Int64} {r23 : Int32} (h0 : ¬ (p0 = 37)) (h1 : ¬ (p0 = 38)) (h2 : (p0 = 39)) (h3 : (p1 = 0)) (h4 : (p2 = 0)) (h5 : r23 = gsY_X11_truth_1 NF 0 v f w g) : gsY_X11_done_1 NF p0 p1 p2 v f w g = r23 := by
  subst h5
  simp only [gsY_X11_done_1, if_neg h0, if_neg h1, if_pos h2, if_pos h3, if_pos h4]
theorem gsY_X11_done_1_q7 {NF : Nat} {p0 : Int32} {p1 : Int32} {p2 : Int32} {v : Nat → Int32} {f : Nat → Nat → Int32} {w : Int64} {g : Nat → Int64} {r26 : Int32} (h0 : ¬ (p0 = 37)) (h1 : ¬ (p0 = 38)) (h2 : (p0 = 39)) (h3 : (p1 = 0)) (h4 : ¬ (p2 = 0)) (h5 : r26 = gsY_X11_truth_1 NF 1 v f w g) : gsY_X11_done_1 NF p0 p1 p2 v f w g = r26 := by
  subst h5
  simp only [gsY_X11_done_1, if_neg h0, if_neg h1, if_pos h2, if_pos h3, if_neg h4]
theorem gsY_X11_done_1_q8 {NF : Nat} {p0 : Int32} {p1 : Int32} {p2 : Int32} {v : Nat → Int32} {f : Nat → Nat → Int32} {w : Int64} {g : Nat → Int64} {r31 : Int32} (h0 : ¬ (p0 = 37)) (h1 : ¬ (p0 = 38)) (h2 : ¬ (p0 = 39)) (h3 : (p0 = 40)) (h4 : ¬ (p1 = 0)) (h5 : r31 = gsY_X11_truth_1 NF 1 v f w g) : gsY_X11_done_1 NF p0 p1 p2 v f w g = r31 := by
  subst h5
  simp only [gsY_X11_done_1, if_neg h0, if_neg h1, if_neg h2, if_pos h3, if_neg h4]
theorem gsY_X11_done_1_q9 {NF : Nat} {p0 : Int32} {p1 : Int32} {p2 : Int32} {v : Nat → Int32} {f : Nat → Nat → Int32} {w : Int64} {g : Nat → Int64} {r35 : Int32} (h0 : ¬ (p0 = 37)) (h1 : ¬ (p0 = 38)) (h2 : ¬ (p0 = 39)) (h3 : (p0 = 40)) (h4 : (p1 = 0)) (h5 : (p2 = 0)) (h6 : r35 = gsY_X11_truth_1 NF 0 v f w g) : gsY_X11_done_1 NF p0 p1 p2 v f w g = r35 := by
  subst h6
  simp only [gsY_X11_done_1, if_neg h0, if_neg h1, if_neg h2, if_pos h3, if_pos h4, if_pos h5]
theorem gsY_X11_done_1_q10 {NF : Nat} {p0 : Int32} {p1 : Int32} {p2 : Int32} {v : Nat → Int32} {f : Nat → Nat → Int32} {w : Int64} {g : Nat → Int64} {r38 : Int32} (h0 : ¬ (p0 = 37)) (h1 : ¬ (p0 = 38)) (h2 : ¬ (p0 = 39)) (h3 : (p0 = 40)) (h4 : (p1 = 0)) (h5 : ¬ (p2 = 0)) (h6 : r38 = gsY_X11_truth_1 NF 1 v f w g) : gsY_X11_done_1 NF p0 p1 p2 v f w g = r38 := by
  subst h6
  simp only [gsY_X11_done_1, if_neg h0, if_neg h1, if_neg h2, if_pos h3, if_pos h4, if_neg h5]
theorem gsY_X11_done_1_q11 {NF : Nat} {p0 : Int32} {p1 : Int32} {p2 : Int32} {v : Nat → Int32} {f : Nat → Nat → Int32} {w : Int64} {g : Nat → Int64} {r43 : Int32} (h0 : ¬ (p0 = 37)) (h1 : ¬ (p0 = 38)) (h2 : ¬ (p0 = 39)) (h3 : ¬ (p0 = 40)) (h4 : (p0 = 41)) (h5 : ¬ (p1 = 0)) (h6 : r43 = gsY_X11_truth_1 NF 1 v f w g) : gsY_X11_done_1 NF p0 p1 p2 v f w g = r43 := by
  subst h6
  simp only [gsY_X11_done_1, if_neg h0, if_neg h1, if_neg h2, if_neg h3, if_pos h4, if_neg h5]
theorem gsY_X11_done_1_q12 {NF : Nat} {p0 : Int32} {p1 : Int32} {p2 : Int32} {v : Nat → Int32} {f : Nat → Nat → Int32} {w : Int64} {g : Nat → Int64} {r47 : Int32} (h0 : ¬ (p0 = 37)) (h1 : ¬ (p0 = 38)) (h2 : ¬ (p0 = 39)) (h3 : ¬ (p0 = 40)) (h4 : (p0 = 41)) (h5 : (p1 = 0)) (h6 : (p2 = 0)) (h7 : r47 = gsY_X11_truth_1 NF 0 v f w g) : gsY_X11_done_1 NF p0 p1 p2 v f w g = r47 := by
  subst h7
  simp only [gsY_X11_done_1, if_neg h0, if_neg h1, if_neg h2, if_neg h3, if_pos h4, if_pos h5, if_pos h6]
theorem gsY_X11_done_1_q13 {NF : Nat} {p0 : Int32} {p1 : Int32} {p2 : Int32} {v : Nat → Int32} {f : Nat → Nat → Int32} {w : Int64} {g : Nat → Int64} {r50 : Int32} (h0 : ¬ (p0 = 37)) (h1 : ¬ (p0 = 38)) (h2 : ¬ (p0 = 39)) (h3 : ¬ (p0 = 40)) (h4 : (p0 = 41)) (h5 : (p1 = 0)) (h6 : ¬ (p2 = 0)) (h7 : r50 = gsY_X11_truth_1 NF 1 v f w g) : gsY_X11_done_1 NF p0 p1 p2 v f w g = r50 := by
  subst h7
  simp only [gsY_X11_done_1, if_neg h0, if_neg h1, if_neg h2, if_neg h3, if_pos h4, if_pos h5, if_neg h6]
theorem gsY_X11_done_1_q14 {NF : Nat} {p0 : Int32} {p1 : Int32} {p2 : Int32} {v : Nat → Int32} {f : Nat → Nat → Int32} {w : Int64} {g : Nat → Int64} {t53 : Int32} (h0 : ¬ (p0 = 37)) (h1 : ¬ (p0 = 38)) (h2 : ¬ (p0 = 39)) (h3 : ¬ (p0 = 40)) (h4 : ¬ (p0 = 41)) (h5 : (p0 = 42)) (h6 : t53 = p1 * p2) : gsY_X11_done_1 NF p0 p1 p2 v f w g = t53 := by
  subst h6
  simp only [gsY_X11_done_1, if_neg h0, if_neg h1, if_neg h2, if_neg h3, if_neg h4, if_pos h5]
theorem gsY_X11_done_1_q15 {NF : Nat} {p0 : Int32} {p1 : Int32} {p2 : Int32} {v : Nat → Int32} {f : Nat → Nat → Int32} {w : Int64} {g : Nat → Int64} {t55 : Int32} (h0 : ¬ (p0 = 37)) (h1 : ¬ (p0 = 38)) (h2 : ¬ (p0 = 39)) (h3 : ¬ (p0 = 40)) (h4 : ¬ (p0 = 41)) (h5 : ¬ (p0 = 42)) (h6 : (p0 = 43)) (h7 : t55 = p1 + p2) : gsY_X11_done_1 NF p0 p1 p2 v f w g = t55 := by
  subst h7
  simp only [gsY_X11_done_1, if_neg h0, if_neg h1, if_neg h2, if_neg h3, if_neg h4, if_neg h5, if_pos h6]
theorem gsY_X11_done_1_q16 {NF : Nat} {p0 : Int32} {p1 : Int32} {p2 : Int32} {v : Nat → Int32} {f : Nat → Nat → Int32} {w : Int64} {g : Nat → Int64} {r59 : Int32} (h0 : ¬ (p0 = 37)) (h1 : ¬ (p0 = 38)) (h2 : ¬ (p0 = 39)) (h3 : ¬ (p0 = 40)) (h4 : ¬ (p0 = 41)) (h5 : ¬ (p0 = 42)) (h6 : ¬ (p0 = 43)) (h7 : (p0 = 44)) (h8 : ¬ (p1 = 0)) (h9 : r59 = gsY_X11_truth_1 NF 1 v f w g) : gsY_X11_done_1 NF p0 p1 p2 v f w g = r59 := by
  subst h9
  simp only [gsY_X11_done_1, if_neg h0, if_neg h1, if_neg h2, if_neg h3, if_neg h4, if_neg h5, if_neg h6, if_pos h7, if_neg h8]
theorem gsY_X11_done_1_q17 {NF : Nat} {p0 : Int32} {p1 : Int32} {p2 : Int32} {v : Nat → Int32} {f : Nat → Nat → Int32} {w : Int64} {g : Nat → Int64} {r63 : Int32} (h0 : ¬ (p0 = 37)) (h1 : ¬ (p0 = 38)) (h2 : ¬ (p0 = 39)) (h3 : ¬ (p0 = 40)) (h4 : ¬ (p0 = 41)) (h5 : ¬ (p0 = 42)) (h6 : ¬ (p0 = 43)) (h7 : (p0 = 44)) (h8 : (p1 = 0)) (h9 : (p2 = 0)) (h10 : r63 = gsY_X11_truth_1 NF 0 v f w g) : gsY_X11_done_1 NF p0 p1 p2 v f w g = r63 := by
  subst h10
  simp only [gsY_X11_done_1, if_neg h0, if_neg h1, if_neg h2, if_neg h3, if_neg h4, if_neg h5, if_neg h6, if_pos h7, if_pos h8, if_pos h9]
theorem gsY_X11_done_1_q18 {NF : Nat} {p0 : Int32} {p1 : Int32} {p2 : Int32} {v : Nat → Int32} {f : Nat → Nat → Int32} {w : Int64} {g : Nat → Int64} {r66 : Int32} (h0 : ¬ (p0 = 37)) (h1 : ¬ (p0 = 38)) (h2 : ¬ (p0 = 39)) (h3 : ¬ (p0 = 40)) (h4 : ¬ (p0 = 41)) (h5 : ¬ (p0 = 42)) (h6 : ¬ (p0 = 43)) (h7 : (p0 = 44)) (h8 : (p1 = 0)) (h9 : ¬ (p2 = 0)) (h10 : r66 = gsY_X11_truth_1 NF 1 v f w g) : gsY_X11_done_1 NF p0 p1 p2 v f w g = r66 := by
  subst h10
  simp only [gsY_X11_done_1, if_neg h0, if_neg h1, if_neg h2, if_neg h3, if_neg h4, if_neg h5, if_neg h6, if_pos h7, if_pos h8, if_neg h9]
theorem gsY_X11_done_1_q19 {NF : Nat} {p0 : Int32} {p1 : Int32} {p2 : Int32} {v : Nat → Int32} {f : Nat → Nat → Int32} {w : Int64} {g : Nat → Int64} {t69 : Int32} (h0 : ¬ (p0 = 37)) (h1 : ¬ (p0 = 38)) (h2 : ¬ (p0 = 39)) (h3 : ¬ (p0 = 40)) (h4 : ¬ (p0 = 41)) (h5 : ¬ (p0 = 42)) (h6 : ¬ (p0 = 43)) (h7 : ¬ (p0 = 44)) (h8 : (p0 = 45)) (h9 : t69 = p1 - p2) : gsY_X11_done_1 NF p0 p1 p2 v f w g = t69 := by
  subst h9
  simp only [gsY_X11_done_1, if_neg h0, if_neg h1, if_neg h2, if_neg h3, if_neg h4, if_neg h5, if_neg h6, if_neg h7, if_pos h8]
theorem gsY_X11_done_1_q20 {NF : Nat} {p0 : Int32} {p1 : Int32} {p2 : Int32} {v : Nat → Int32} {f : Nat → Nat → Int32} {w : Int64} {g : Nat → Int64} {r73 : Int32} (h0 : ¬ (p0 = 37)) (h1 : ¬ (p0 = 38)) (h2 : ¬ (p0 = 39)) (h3 : ¬ (p0 = 40)) (h4 : ¬ (p0 = 41)) (h5 : ¬ (p0 = 42)) (h6 : ¬ (p0 = 43)) (h7 : ¬ (p0 = 44)) (h8 : ¬ (p0 = 45)) (h9 : (p0 = 46)) (h10 : ¬ (p1 = 0)) (h11 : r73 = gsY_X11_truth_1 NF 1 v f w g) : gsY_X11_done_1 NF p0 p1 p2 v f w g = r73 := by
  subst h11
  simp only [gsY_X11_done_1, if_neg h0, if_neg h1, if_neg h2, if_neg h3, if_neg h4, if_neg h5, if_neg h6, if_neg h7, if_neg h8, if_pos h9, if_neg h10]
theorem gsY_X11_done_1_q21 {NF : Nat} {p0 : Int32} {p1 : Int32} {p2 : Int32} {v : Nat → Int32} {f : Nat → Nat → Int32} {w : Int64} {g : Nat → Int64} {r77 : Int32} (h0 : ¬ (p0 = 37)) (h1 : ¬ (p0 = 38)) (h2 : ¬ (p0 = 39)) (h3 : ¬ (p0 = 40)) (h4 : ¬ (p0 = 41)) (h5 : ¬ (p0 = 42)) (h6 : ¬ (p0 = 43)) (h7 : ¬ (p0 = 44)) (h8 : ¬ (p0 = 45)) (h9 : (p0 = 46)) (h10 : (p1 = 0)) (h11 : (p2 = 0)) (h12 : r77 = gsY_X11_truth_1 NF 0 v f w g) : gsY_X11_done_1 NF p0 p1 p2 v f w g = r77 := by
  subst h12
  simp only [gsY_X11_done_1, if_neg h0, if_neg h1, if_neg h2, if_neg h3, if_neg h4, if_neg h5, if_neg h6, if_neg h7, if_neg h8, if_pos h9, if_pos h10, if_pos h11]
theorem gsY_X11_done_1_q22 {NF : Nat} {p0 : Int32} {p1 : Int32} {p2 : Int32} {v : Nat → Int32} {f : Nat → Nat → Int32} {w : Int64} {g : Nat → Int64} {r80 : Int32} (h0 : ¬ (p0 = 37)) (h1 : ¬ (p0 = 38)) (h2 : ¬ (p0 = 39)) (h3 : ¬ (p0 = 40)) (h4 : ¬ (p0 = 41)) (h5 : ¬ (p0 = 42)) (h6 : ¬ (p0 = 43)) (h7 : ¬ (p0 = 44)) (h8 : ¬ (p0 = 45)) (h9 : (p0 = 46)) (h10 : (p1 = 0)) (h11 : ¬ (p2 = 0)) (h12 : r80 = gsY_X11_truth_1 NF 1 v f w g) : gsY_X11_done_1 NF p0 p1 p2 v f w g = r80 := by
  subst h12
  simp only [gsY_X11_done_1, if_neg h0, if_neg h1, if_neg h2, if_neg h3, if_neg h4, if_neg h5, if_neg h6, if_neg h7, if_neg h8, if_pos h9, if_pos h10, if_neg h11]
theorem gsY_X11_done_1_q23 {NF : Nat} {p0 : Int32} {p1 : Int32} {p2 : Int32} {v : Nat → Int32} {f : Nat → Nat → Int32} {w : Int64} {g : Nat → Int64} {t84 : Int32} (h0 : ¬ (p0 = 37)) (h1 : ¬ (p0 = 38)) (h2 : ¬ (p0 = 39)) (h3 : ¬ (p0 = 40)) (h4 : ¬ (p0 = 41)) (h5 : ¬ (p0 = 42)) (h6 : ¬ (p0 = 43)) (h7 : ¬ (p0 = 44)) (h8 : ¬ (p0 = 45)) (h9 : ¬ (p0 = 46)) (h10 : (p0 = 47)) (h11 : ¬ (p2 = 0)) (h12 : t84 = p1 / p2) : gsY_X11_done_1 NF p0 p1 p2 v f w g = t84 := by
  subst h12
  simp only [gsY_X11_done_1, if_neg h0, if_neg h1, if_neg h2, if_neg h3, if_neg h4, if_neg h5, if_neg h6, if_neg h7, if_neg h8, if_neg h9, if_pos h10, if_neg h11]
theorem gsY_X11_done_1_q24 {NF : Nat} {p0 : Int32} {p1 : Int32} {p2 : Int32} {v : Nat → Int32} {f : Nat → Nat → Int32} {w : Int64} {g : Nat → Int64} (h0 : ¬ (p0 = 37)) (h1 : ¬ (p0 = 38)) (h2 : ¬ (p0 = 39)) (h3 : ¬ (p0 = 40)) (h4 : ¬ (p0 = 41)) (h5 : ¬ (p0 = 42)) (h6 : ¬ (p0 = 43)) (h7 : ¬ (p0 = 44)) (h8 : ¬ (p0 = 45)) (h9 : ¬ (p0 = 46)) (h10 : (p0 = 47)) (h11 : (p2 = 0)) : gsY_X11_done_1 NF p0 p1 p2 v f w g = 0 := by
  simp only [gsY_X11_done_1, if_neg h0, if_neg h1, if_neg h2, if_neg h3, if_neg h4, if_neg h5, if_neg h6, if_neg h7, if_neg h8, if_neg h9, if_pos h10, if_pos h11]
theorem gsY_X11_done_1_q25 {NF : Nat} {p0 : Int32} {p1 : Int32} {p2 : Int32} {v : Nat → Int32} {f : Nat → Nat → Int32} {w : Int64} {g : Nat → Int64} {r88 : Int32} (h0 : ¬ (p0 = 37)) (h1 : ¬ (p0 = 38)) (h2 : ¬ (p0 = 39)) (h3 : ¬ (p0 = 40)) (h4 : ¬ (p0 = 41)) (h5 : ¬ (p0 = 42)) (h6 : ¬ (p0 = 43)) (h7 : ¬ (p0 = 44)) (h8 : ¬ (p0 = 45)) (h9 : ¬ (p0 = 46)) (h10 : ¬ (p0 = 47)) (h11 : (p0 = 48)) (h12 : ¬ (p1 = 0)) (h13 : r88 = gsY_X11_truth_1 NF 1 v f w g) : gsY_X11_done_1 NF p0 p1 p2 v f w g = r88 := by
  subst h13
  simp only [gsY_X11_done_1, if_neg h0, if_neg h1, if_neg h2, if_neg h3, if_neg h4, if_neg h5, if_neg h6, if_neg h7, if_neg h8, if_neg h9, if_neg h10, if_pos h11, if_neg h12]
theorem gsY_X11_done_1_q26 {NF : Nat} {p0 : Int32} {p1 : Int32} {p2 : Int32} {v : Nat → Int32} {f : Nat → Nat → Int32} {w : Int64} {g : Nat → Int64} {r92 : Int32} (h0 : ¬ (p0 = 37)) (h1 : ¬ (p0 = 38)) (h2 : ¬ (p0 = 39)) (h3 : ¬ (p0 = 40)) (h4 : ¬ (p0 = 41)) (h5 : ¬ (p0 = 42)) (h6 : ¬ (p0 = 43)) (h7 : ¬ (p0 = 44)) (h8 : ¬ (p0 = 45)) (h9 : ¬ (p0 = 46)) (h10 : ¬ (p0 = 47)) (h11 : (p0 = 48)) (h12 : (p1 = 0)) (h13 : (p2 = 0)) (h14 : r92 = gsY_X11_truth_1 NF 0 v f w g) : gsY_X11_done_1 NF p0 p1 p2 v f w g = r92 := by
  subst h14
  simp only [gsY_X11_done_1, if_neg h0, if_neg h1, if_neg h2, if_neg h3, if_neg h4, if_neg h5, if_neg h6, if_neg h7, if_neg h8, if_neg h9, if_neg h10, if_pos h11, if_pos h12, if_pos h13]
theorem gsY_X11_done_1_q27 {NF : Nat} {p0 : Int32} {p1 : Int32} {p2 : Int32} {v : Nat → Int32} {f : Nat → Nat → Int32} {w : Int64} {g : Nat → Int64} {r95 : Int32} (h0 : ¬ (p0 = 37)) (h1 : ¬ (p0 = 38)) (h2 : ¬ (p0 = 39)) (h3 : ¬ (p0 = 40)) (h4 : ¬ (p0 = 41)) (h5 : ¬ (p0 = 42)) (h6 : ¬ (p0 = 43)) (h7 : ¬ (p0 = 44)) (h8 : ¬ (p0 = 45)) (h9 : ¬ (p0 = 46)) (h10 : ¬ (p0 = 47)) (h11 : (p0 = 48)) (h12 : (p1 = 0)) (h13 : ¬ (p2 = 0)) (h14 : r95 = gsY_X11_truth_1 NF 1 v f w g) : gsY_X11_done_1 NF p0 p1 p2 v f w g = r95 := by
  subst h14
  simp only [gsY_X11_done_1, if_neg h0, if_neg h1, if_neg h2, if_neg h3, if_neg h4, if_neg h5, if_neg h6, if_neg h7, if_neg h8, if_neg h9, if_neg h10, if_pos h11, if_pos h12, if_neg h13]
theorem gsY_X11_done_1_q28 {NF : Nat} {p0 : Int32} {p1 : Int32} {p2 : Int32} {v : Nat → Int32} {f : Nat → Nat → Int32} {w : Int64} {g : Nat → Int64} {r100 : Int32} (h0 : ¬ (p0 = 37)) (h1 : ¬ (p0 = 38)) (h2 : ¬ (p0 = 39)) (h3 : ¬ (p0 = 40)) (h4 : ¬ (p0 = 41)) (h5 : ¬ (p0 = 42)) (h6 : ¬ (p0 = 43)) (h7 : ¬ (p0 = 44)) (h8 : ¬ (p0 = 45)) (h9 : ¬ (p0 = 46)) (h10 : ¬ (p0 = 47)) (h11 : ¬ (p0 = 48)) (h12 : (p0 = 49)) (h13 : ¬ (p1 = 0)) (h14 : r100 = gsY_X11_truth_1 NF 1 v f w g) : gsY_X11_done_1 NF p0 p1 p2 v f w g = r100 := by
  subst h14
  simp only [gsY_X11_done_1, if_neg h0, if_neg h1, if_neg h2, if_neg h3, if_neg h4, if_neg h5, if_neg h6, if_neg h7, if_neg h8, if_neg h9, if_neg h10, if_neg h11, if_pos h12, if_neg h13]
theorem gsY_X11_done_1_q29 {NF : Nat} {p0 : Int32} {p1 : Int32} {p2 : Int32} {v : Nat → Int32} {f : Nat → Nat → Int32} {w : Int64} {g : Nat → Int64} {r104 : Int32} (h0 : ¬ (p0 = 37)) (h1 : ¬ (p0 = 38)) (h2 : ¬ (p0 = 39)) (h3 : ¬ (p0 = 40)) (h4 : ¬ (p0 = 41)) (h5 : ¬ (p0 = 42)) (h6 : ¬ (p0 = 43)) (h7 : ¬ (p0 = 44)) (h8 : ¬ (p0 = 45)) (h9 : ¬ (p0 = 46)) (h10 : ¬ (p0 = 47)) (h11 : ¬ (p0 = 48)) (h12 : (p0 = 49)) (h13 : (p1 = 0)) (h14 : (p2 = 0)) (h15 : r104 = gsY_X11_truth_1 NF 0 v f w g) : gsY_X11_done_1 NF p0 p1 p2 v f w g = r104 := by
  subst h15
  simp only [gsY_X11_done_1, if_neg h0, if_neg h1, if_neg h2, if_neg h3, if_neg h4, if_neg h5, if_neg h6, if_neg h7, if_neg h8, if_neg h9, if_neg h10, if_neg h11, if_pos h12, if_pos h13, if_pos h14]
theorem gsY_X11_done_1_q30 {NF : Nat} {p0 : Int32} {p1 : Int32} {p2 : Int32} {v : Nat → Int32} {f : Nat → Nat → Int32} {w : Int64} {g : Nat → Int64} {r107 : Int32} (h0 : ¬ (p0 = 37)) (h1 : ¬ (p0 = 38)) (h2 : ¬ (p0 = 39)) (h3 : ¬ (p0 = 40)) (h4 : ¬ (p0 = 41)) (h5 : ¬ (p0 = 42)) (h6 : ¬ (p0 = 43)) (h7 : ¬ (p0 = 44)) (h8 : ¬ (p0 = 45)) (h9 : ¬ (p0 = 46)) (h10 : ¬ (p0 = 47)) (h11 : ¬ (p0 = 48)) (h12 : (p0 = 49)) (h13 : (p1 = 0)) (h14 : ¬ (p2 = 0)) (h15 : r107 = gsY_X11_truth_1 NF 1 v f w g) : gsY_X11_done_1 NF p0 p1 p2 v f w g = r107 := by
  subst h15
  simp only [gsY_X11_done_1, if_neg h0, if_neg h1, if_neg h2, if_neg h3, if_neg h4, if_neg h5, if_neg h6, if_neg h7, if_neg h8, if_neg h9, if_neg h10, if_neg h11, if_pos h12, if_pos h13, if_neg h14]
theorem gsY_X11_done_1_q31 {NF : Nat} {p0 : Int32} {p1 : Int32} {p2 : Int32} {v : Nat → Int32} {f : Nat → Nat → Int32} {w : Int64} {g : Nat → Int64} {r112 : Int32} (h0 : ¬ (p0 = 37)) (h1 : ¬ (p0 = 38)) (h2 : ¬ (p0 = 39)) (h3 : ¬ (p0 = 40)) (h4 : ¬ (p0 = 41)) (h5 : ¬ (p0 = 42)) (h6 : ¬ (p0 = 43)) (h7 : ¬ (p0 = 44)) (h8 : ¬ (p0 = 45)) (h9 : ¬ (p0 = 46)) (h10 : ¬ (p0 = 47)) (h11 : ¬ (p0 = 48)) (h12 : ¬ (p0 = 49)) (h13 : (p0 = 50)) (h14 : ¬ (p1 = 0)) (h15 : r112 = gsY_X11_truth_1 NF 1 v f w g) : gsY_X11_done_1 NF p0 p1 p2 v f w g = r112 := by
  subst h15
  simp only [gsY_X11_done_1, if_neg h0, if_neg h1, if_neg h2, if_neg h3, if_neg h4, if_neg h5, if_neg h6, if_neg h7, if_neg h8, if_neg h9, if_neg h10, if_neg h11, if_neg h12, if_pos h13, if_neg h14]
theorem gsY_X11_done_1_q32 {NF : Nat} {p0 : Int32} {p1 : Int32} {p2 : Int32} {v : Nat → Int32} {f : Nat → Nat → Int32} {w : Int64} {g : Nat → Int64} {r116 : Int32} (h0 : ¬ (p0 = 37)) (h1 : ¬ (p0 = 38)) (h2 : ¬ (p0 = 39)) (h3 : ¬ (p0 = 40)) (h4 : ¬ (p0 = 41)) (h5 : ¬ (p0 = 42)) (h6 : ¬ (p0 = 43)) (h7 : ¬ (p0 = 44)) (h8 : ¬ (p0 = 45)) (h9 : ¬ (p0 = 46)) (h10 : ¬ (p0 = 47)) (h11 : ¬ (p0 = 48)) (h12 : ¬ (p0 = 49)) (h13 : (p0 = 50)) (h14 : (p1 = 0)) (h15 : (p2 = 0)) (h16 : r116 = gsY_X11_truth_1 NF 0 v f w g) : gsY_X11_done_1 NF p0 p1 p2 v f w g = r116 := by
  subst h16
  simp only [gsY_X11_done_1, if_neg h0, if_neg h1, if_neg h2, if_neg h3, if_neg h4, if_neg h5, if_neg h6, if_neg h7, if_neg h8, if_neg h9, if_neg h10, if_neg h11, if_neg h12, if_pos h13, if_pos h14, if_pos h15]
theorem gsY_X11_done_1_q33 {NF : Nat} {p0 : Int32} {p1 : Int32} {p2 : Int32} {v : Nat → Int32} {f : Nat → Nat → Int32} {w : Int64} {g : Nat → Int64} {r119 : Int32} (h0 : ¬ (p0 = 37)) (h1 : ¬ (p0 = 38)) (h2 : ¬ (p0 = 39)) (h3 : ¬ (p0 = 40)) (h4 : ¬ (p0 = 41)) (h5 : ¬ (p0 = 42)) (h6 : ¬ (p0 = 43)) (h7 : ¬ (p0 = 44)) (h8 : ¬ (p0 = 45)) (h9 : ¬ (p0 = 46)) (h10 : ¬ (p0 = 47)) (h11 : ¬ (p0 = 48)) (h12 : ¬ (p0 = 49)) (h13 : (p0 = 50)) (h14 : (p1 = 0)) (h15 : ¬ (p2 = 0)) (h16 : r119 = gsY_X11_truth_1 NF 1 v f w g) : gsY_X11_done_1 NF p0 p1 p2 v f w g = r119 := by
  subst h16
  simp only [gsY_X11_done_1, if_neg h0, if_neg h1, if_neg h2, if_neg h3, if_neg h4, if_neg h5, if_neg h6, if_neg h7, if_neg h8, if_neg h9, if_neg h10, if_neg h11, if_neg h12, if_pos h13, if_pos h14, if_neg h15]
theorem gsY_X11_done_1_q34 {NF : Nat} {p0 : Int32} {p1 : Int32} {p2 : Int32} {v : Nat → Int32} {f : Nat → Nat → Int32} {w : Int64} {g : Nat → Int64} {r124 : Int32} (h0 : ¬ (p0 = 37)) (h1 : ¬ (p0 = 38)) (h2 : ¬ (p0 = 39)) (h3 : ¬ (p0 = 40)) (h4 : ¬ (p0 = 41)) (h5 : ¬ (p0 = 42)) (h6 : ¬ (p0 = 43)) (h7 : ¬ (p0 = 44)) (h8 : ¬ (p0 = 45)) (h9 : ¬ (p0 = 46)) (h10 : ¬ (p0 = 47)) (h11 : ¬ (p0 = 48)) (h12 : ¬ (p0 = 49)) (h13 : ¬ (p0 = 50)) (h14 : (p0 = 51)) (h15 : ¬ (p1 = 0)) (h16 : r124 = gsY_X11_truth_1 NF 1 v f w g) : gsY_X11_done_1 NF p0 p1 p2 v f w g = r124 := by
  subst h16
  simp only [gsY_X11_done_1, if_neg h0, if_neg h1, if_neg h2, if_neg h3, if_neg h4, if_neg h5, if_neg h6, if_neg h7, if_neg h8, if_neg h9, if_neg h10, if_neg h11, if_neg h12, if_neg h13, if_pos h14, if_neg h15]
theorem gsY_X11_done_1_q35 {NF : Nat} {p0 : Int32} {p1 : Int32} {p2 : Int32} {v : Nat → Int32} {f : Nat → Nat → Int32} {w : Int64} {g : Nat → Int64} {r128 : Int32} (h0 : ¬ (p0 = 37)) (h1 : ¬ (p0 = 38)) (h2 : ¬ (p0 = 39)) (h3 : ¬ (p0 = 40)) (h4 : ¬ (p0 = 41)) (h5 : ¬ (p0 = 42)) (h6 : ¬ (p0 = 43)) (h7 : ¬ (p0 = 44)) (h8 : ¬ (p0 = 45)) (h9 : ¬ (p0 = 46)) (h10 : ¬ (p0 = 47)) (h11 : ¬ (p0 = 48)) (h12 : ¬ (p0 = 49)) (h13 : ¬ (p0 = 50)) (h14 : (p0 = 51)) (h15 : (p1 = 0)) (h16 : (p2 = 0)) (h17 : r128 = gsY_X11_truth_1 NF 0 v f w g) : gsY_X11_done_1 NF p0 p1 p2 v f w g = r128 := by
  subst h17
  simp only [gsY_X11_done_1, if_neg h0, if_neg h1, if_neg h2, if_neg h3, if_neg h4, if_neg h5, if_neg h6, if_neg h7, if_neg h8, if_neg h9, if_neg h10, if_neg h11, if_neg h12, if_neg h13, if_pos h14, if_pos h15, if_pos h16]
theorem gsY_X11_done_1_q36 {NF : Nat} {p0 : Int32} {p1 : Int32} {p2 : Int32} {v : Nat → Int32} {f : Nat → Nat → Int32} {w : Int64} {g : Nat → Int64} {r131 : Int32} (h0 : ¬ (p0 = 37)) (h1 : ¬ (p0 = 38)) (h2 : ¬ (p0 = 39)) (h3 : ¬ (p0 = 40)) (h4 : ¬ (p0 = 41)) (h5 : ¬ (p0 = 42)) (h6 : ¬ (p0 = 43)) (h7 : ¬ (p0 = 44)) (h8 : ¬ (p0 = 45)) (h9 : ¬ (p0 = 46)) (h10 : ¬ (p0 = 47)) (h11 : ¬ (p0 = 48)) (h12 : ¬ (p0 = 49)) (h13 : ¬ (p0 = 50)) (h14 : (p0 = 51)) (h15 : (p1 = 0)) (h16 : ¬ (p2 = 0)) (h17 : r131 = gsY_X11_truth_1 NF 1 v f w g) : gsY_X11_done_1 NF p0 p1 p2 v f w g = r131 := by
  subst h17
  simp only [gsY_X11_done_1, if_neg h0, if_neg h1, if_neg h2, if_neg h3, if_neg h4, if_neg h5, if_neg h6, if_neg h7, if_neg h8, if_neg h9, if_neg h10, if_neg h11, if_neg h12, if_neg h13, if_pos h14, if_pos h15, if_neg h16]
theorem gsY_X11_done_1_q37 {NF : Nat} {p0 : Int32} {p1 : Int32} {p2 : Int32} {v : Nat → Int32} {f : Nat → Nat → Int32} {w : Int64} {g : Nat → Int64} {r136 : Int32} (h0 : ¬ (p0 = 37)) (h1 : ¬ (p0 = 38)) (h2 : ¬ (p0 = 39)) (h3 : ¬ (p0 = 40)) (h4 : ¬ (p0 = 41)) (h5 : ¬ (p0 = 42)) (h6 : ¬ (p0 = 43)) (h7 : ¬ (p0 = 44)) (h8 : ¬ (p0 = 45)) (h9 : ¬ (p0 = 46)) (h10 : ¬ (p0 = 47)) (h11 : ¬ (p0 = 48)) (h12 : ¬ (p0 = 49)) (h13 : ¬ (p0 = 50)) (h14 : ¬ (p0 = 51)) (h15 : (p0 = 52)) (h16 : ¬ (p1 = 0)) (h17 : r136 = gsY_X11_truth_1 NF 1 v f w g) : gsY_X11_done_1 NF p0 p1 p2 v f w g = r136 := by
  subst h17
  simp only [gsY_X11_done_1, if_neg h0, if_neg h1, if_neg h2, if_neg h3, if_neg h4, if_neg h5, if_neg h6, if_neg h7, if_neg h8, if_neg h9, if_neg h10, if_neg h11, if_neg h12, if_neg h13, if_neg h14, if_pos h15, if_neg h16]
theorem gsY_X11_done_1_q38 {NF : Nat} {p0 : Int32} {p1 : Int32} {p2 : Int32} {v : Nat → Int32} {f : Nat → Nat → Int32} {w : Int64} {g : Nat → Int64} {r140 : Int32} (h0 : ¬ (p0 = 37)) (h1 : ¬ (p0 = 38)) (h2 : ¬ (p0 = 39)) (h3 : ¬ (p0 = 40)) (h4 : ¬ (p0 = 41)) (h5 : ¬ (p0 = 42)) (h6 : ¬ (p0 = 43)) (h7 : ¬ (p0 = 44)) (h8 : ¬ (p0 = 45)) (h9 : ¬ (p0 = 46)) (h10 : ¬ (p0 = 47)) (h11 : ¬ (p0 = 48)) (h12 : ¬ (p0 = 49)) (h13 : ¬ (p0 = 50)) (h14 : ¬ (p0 = 51)) (h15 : (p0 = 52)) (h16 : (p1 = 0)) (h17 : (p2 = 0)) (h18 : r140 = gsY_X11_truth_1 NF 0 v f w g) : gsY_X11_done_1 NF p0 p1 p2 v f w g = r140 := by
  subst h18
  simp only [gsY_X11_done_1, if_neg h0, if_neg h1, if_neg h2, if_neg h3, if_neg h4, if_neg h5, if_neg h6, if_neg h7, if_neg h8, if_neg h9, if_neg h10, if_neg h11, if_neg h12, if_neg h13, if_neg h14, if_pos h15, if_pos h16, if_pos h17]
theorem gsY_X11_done_1_q39 {NF : Nat} {p0 : Int32} {p1 : Int32} {p2 : Int32} {v : Nat → Int32} {f : Nat → Nat → Int32} {w : Int64} {g : Nat → Int64} {r143 : Int32} (h0 : ¬ (p0 = 37)) (h1 : ¬ (p0 = 38)) (h2 : ¬ (p0 = 39)) (h3 : ¬ (p0 = 40)) (h4 : ¬ (p0 = 41)) (h5 : ¬ (p0 = 42)) (h6 : ¬ (p0 = 43)) (h7 : ¬ (p0 = 44)) (h8 : ¬ (p0 = 45)) (h9 : ¬ (p0 = 46)) (h10 : ¬ (p0 = 47)) (h11 : ¬ (p0 = 48)) (h12 : ¬ (p0 = 49)) (h13 : ¬ (p0 = 50)) (h14 : ¬ (p0 = 51)) (h15 : (p0 = 52)) (h16 : (p1 = 0)) (h17 : ¬ (p2 = 0)) (h18 : r143 = gsY_X11_truth_1 NF 1 v f w g) : gsY_X11_done_1 NF p0 p1 p2 v f w g = r143 := by
  subst h18
  simp only [gsY_X11_done_1, if_neg h0, if_neg h1, if_neg h2, if_neg h3, if_neg h4, if_neg h5, if_neg h6, if_neg h7, if_neg h8, if_neg h9, if_neg h10, if_neg h11, if_neg h12, if_neg h13, if_neg h14, if_pos h15, if_pos h16, if_neg h17]
theorem gsY_X11_done_1_q40 {NF : Nat} {p0 : Int32} {p1 : Int32} {p2 : Int32} {v : Nat → Int32} {f : Nat → Nat → Int32} {w : Int64} {g : Nat → Int64} {r148 : Int32} (h0 : ¬ (p0 = 37)) (h1 : ¬ (p0 = 38)) (h2 : ¬ (p0 = 39)) (h3 : ¬ (p0 = 40)) (h4 : ¬ (p0 = 41)) (h5 : ¬ (p0 = 42)) (h6 : ¬ (p0 = 43)) (h7 : ¬ (p0 = 44)) (h8 : ¬ (p0 = 45)) (h9 : ¬ (p0 = 46)) (h10 : ¬ (p0 = 47)) (h11 : ¬ (p0 = 48)) (h12 : ¬ (p0 = 49)) (h13 : ¬ (p0 = 50)) (h14 : ¬ (p0 = 51)) (h15 : ¬ (p0 = 52)) (h16 : (p0 = 53)) (h17 : ¬ (p1 = 0)) (h18 : r148 = gsY_X11_truth_1 NF 1 v f w g) : gsY_X11_done_1 NF p0 p1 p2 v f w g = r148 := by
  subst h18
  simp only [gsY_X11_done_1, if_neg h0, if_neg h1, if_neg h2, if_neg h3, if_neg h4, if_neg h5, if_neg h6, if_neg h7, if_neg h8, if_neg h9, if_neg h10, if_neg h11, if_neg h12, if_neg h13, if_neg h14, if_neg h15, if_pos h16, if_neg h17]
theorem gsY_X11_done_1_q41 {NF : Nat} {p0 : Int32} {p1 : Int32} {p2 : Int32} {v : Nat → Int32} {f : Nat → Nat → Int32} {w : Int64} {g : Nat → Int64} {r152 : Int32} (h0 : ¬ (p0 = 37)) (h1 : ¬ (p0 = 38)) (h2 : ¬ (p0 = 39)) (h3 : ¬ (p0 = 40)) (h4 : ¬ (p0 = 41)) (h5 : ¬ (p0 = 42)) (h6 : ¬ (p0 = 43)) (h7 : ¬ (p0 = 44)) (h8 : ¬ (p0 = 45)) (h9 : ¬ (p0 = 46)) (h10 : ¬ (p0 = 47)) (h11 : ¬ (p0 = 48)) (h12 : ¬ (p0 = 49)) (h13 : ¬ (p0 = 50)) (h14 : ¬ (p0 = 51)) (h15 : ¬ (p0 = 52)) (h16 : (p0 = 53)) (h17 : (p1 = 0)) (h18 : (p2 = 0)) (h19 : r152 = gsY_X11_truth_1 NF 0 v f w g) : gsY_X11_done_1 NF p0 p1 p2 v f w g = r152 := by
  subst h19
  simp only [gsY_X11_done_1, if_neg h0, if_neg h1, if_neg h2, if_neg h3, if_neg h4, if_neg h5, if_neg h6, if_neg h7, if_neg h8, if_neg h9, if_neg h10, if_neg h11, if_neg h12, if_neg h13, if_neg h14, if_neg h15, if_pos h16, if_pos h17, if_pos h18]
theorem gsY_X11_done_1_q42 {NF : Nat} {p0 : Int32} {p1 : Int32} {p2 : Int32} {v : Nat → Int32} {f : Nat → Nat → Int32} {w : Int64} {g : Nat → Int64} {r155 : Int32} (h0 : ¬ (p0 = 37)) (h1 : ¬ (p0 = 38)) (h2 : ¬ (p0 = 39)) (h3 : ¬ (p0 = 40)) (h4 : ¬ (p0 = 41)) (h5 : ¬ (p0 = 42)) (h6 : ¬ (p0 = 43)) (h7 : ¬ (p0 = 44)) (h8 : ¬ (p0 = 45)) (h9 : ¬ (p0 = 46)) (h10 : ¬ (p0 = 47)) (h11 : ¬ (p0 = 48)) (h12 : ¬ (p0 = 49)) (h13 : ¬ (p0 = 50)) (h14 : ¬ (p0 = 51)) (h15 : ¬ (p0 = 52)) (h16 : (p0 = 53)) (h17 : (p1 = 0)) (h18 : ¬ (p2 = 0)) (h19 : r155 = gsY_X11_truth_1 NF 1 v f w g) : gsY_X11_done_1 NF p0 p1 p2 v f w g = r155 := by
  subst h19
  simp only [gsY_X11_done_1, if_neg h0, if_neg h1, if_neg h2, if_neg h3, if_neg h4, if_neg h5, if_neg h6, if_neg h7, if_neg h8, if_neg h9, if_neg h10, if_neg h11, if_neg h12, if_neg h13, if_neg h14, if_neg h15, if_pos h16, if_pos h17, if_neg h18]
theorem gsY_X11_done_1_q43 {NF : Nat} {p0 : Int32} {p1 : Int32} {p2 : Int32} {v : Nat → Int32} {f : Nat → Nat → Int32} {w : Int64} {g : Nat → Int64} {r160 : Int32} (h0 : ¬ (p0 = 37)) (h1 : ¬ (p0 = 38)) (h2 : ¬ (p0 = 39)) (h3 : ¬ (p0 = 40)) (h4 : ¬ (p0 = 41)) (h5 : ¬ (p0 = 42)) (h6 : ¬ (p0 = 43)) (h7 : ¬ (p0 = 44)) (h8 : ¬ (p0 = 45)) (h9 : ¬ (p0 = 46)) (h10 : ¬ (p0 = 47)) (h11 : ¬ (p0 = 48)) (h12 : ¬ (p0 = 49)) (h13 : ¬ (p0 = 50)) (h14 : ¬ (p0 = 51)) (h15 : ¬ (p0 = 52)) (h16 : ¬ (p0 = 53)) (h17 : (p0 = 54)) (h18 : ¬ (p1 = 0)) (h19 : r160 = gsY_X11_truth_1 NF 1 v f w g) : gsY_X11_done_1 NF p0 p1 p2 v f w g = r160 := by
  subst h19
  simp only [gsY_X11_done_1, if_neg h0, if_neg h1, if_neg h2, if_neg h3, if_neg h4, if_neg h5, if_neg h6, if_neg h7, if_neg h8, if_neg h9, if_neg h10, if_neg h11, if_neg h12, if_neg h13, if_neg h14, if_neg h15, if_neg h16, if_pos h17, if_neg h18]
theorem gsY_X11_done_1_q44 {NF : Nat} {p0 : Int32} {p1 : Int32} {p2 : Int32} {v : Nat → Int32} {f : Nat → Nat → Int32} {w : Int64} {g : Nat → Int64} {r164 : Int32} (h0 : ¬ (p0 = 37)) (h1 : ¬ (p0 = 38)) (h2 : ¬ (p0 = 39)) (h3 : ¬ (p0 = 40)) (h4 : ¬ (p0 = 41)) (h5 : ¬ (p0 = 42)) (h6 : ¬ (p0 = 43)) (h7 : ¬ (p0 = 44)) (h8 : ¬ (p0 = 45)) (h9 : ¬ (p0 = 46)) (h10 : ¬ (p0 = 47)) (h11 : ¬ (p0 = 48)) (h12 : ¬ (p0 = 49)) (h13 : ¬ (p0 = 50)) (h14 : ¬ (p0 = 51)) (h15 : ¬ (p0 = 52)) (h16 : ¬ (p0 = 53)) (h17 : (p0 = 54)) (h18 : (p1 = 0)) (h19 : (p2 = 0)) (h20 : r164 = gsY_X11_truth_1 NF 0 v f w g) : gsY_X11_done_1 NF p0 p1 p2 v f w g = r164 := by
  subst h20
  simp only [gsY_X11_done_1, if_neg h0, if_neg h1, if_neg h2, if_neg h3, if_neg h4, if_neg h5, if_neg h6, if_neg h7, if_neg h8, if_neg h9, if_neg h10, if_neg h11, if_neg h12, if_neg h13, if_neg h14, if_neg h15, if_neg h16, if_pos h17, if_pos h18, if_pos h19]
theorem gsY_X11_done_1_q45 {NF : Nat} {p0 : Int32} {p1 : Int32} {p2 : Int32} {v : Nat → Int32} {f : Nat → Nat → Int32} {w : Int64} {g : Nat → Int64} {r167 : Int32} (h0 : ¬ (p0 = 37)) (h1 : ¬ (p0 = 38)) (h2 : ¬ (p0 = 39)) (h3 : ¬ (p0 = 40)) (h4 : ¬ (p0 = 41)) (h5 : ¬ (p0 = 42)) (h6 : ¬ (p0 = 43)) (h7 : ¬ (p0 = 44)) (h8 : ¬ (p0 = 45)) (h9 : ¬ (p0 = 46)) (h10 : ¬ (p0 = 47)) (h11 : ¬ (p0 = 48)) (h12 : ¬ (p0 = 49)) (h13 : ¬ (p0 = 50)) (h14 : ¬ (p0 = 51)) (h15 : ¬ (p0 = 52)) (h16 : ¬ (p0 = 53)) (h17 : (p0 = 54)) (h18 : (p1 = 0)) (h19 : ¬ (p2 = 0)) (h20 : r167 = gsY_X11_truth_1 NF 1 v f w g) : gsY_X11_done_1 NF p0 p1 p2 v f w g = r167 := by
  subst h20
  simp only [gsY_X11_done_1, if_neg h0, if_neg h1, if_neg h2, if_neg h3, if_neg h4, if_neg h5, if_neg h6, if_neg h7, if_neg h8, if_neg h9, if_neg h10, if_neg h11, if_neg h12, if_neg h13, if_neg h14, if_neg h15, if_neg h16, if_pos h17, if_pos h18, if_neg h19]
theorem gsY_X11_done_1_q46 {NF : Nat} {p0 : Int32} {p1 : Int32} {p2 : Int32} {v : Nat → Int32} {f : Nat → Nat → Int32} {w : Int64} {g : Nat → Int64} {r172 : Int32} (h0 : ¬ (p0 = 37)) (h1 : ¬ (p0 = 38)) (h2 : ¬ (p0 = 39)) (h3 : ¬ (p0 = 40)) (h4 : ¬ (p0 = 41)) (h5 : ¬ (p0 = 42)) (h6 : ¬ (p0 = 43)) (h7 : ¬ (p0 = 44)) (h8 : ¬ (p0 = 45)) (h9 : ¬ (p0 = 46)) (h10 : ¬ (p0 = 47)) (h11 : ¬ (p0 = 48)) (h12 : ¬ (p0 = 49)) (h13 : ¬ (p0 = 50)) (h14 : ¬ (p0 = 51)) (h15 : ¬ (p0 = 52)) (h16 : ¬ (p0 = 53)) (h17 : ¬ (p0 = 54)) (h18 : (p0 = 55)) (h19 : ¬ (p1 = 0)) (h20 : r172 = gsY_X11_truth_1 NF 1 v f w g) : gsY_X11_done_1 NF p0 p1 p2 v f w g = r172 := by
  subst h20
  simp only [gsY_X11_done_1, if_neg h0, if_neg h1, if_neg h2, if_neg h3, if_neg h4, if_neg h5, if_neg h6, if_neg h7, if_neg h8, if_neg h9, if_neg h10, if_neg h11, if_neg h12, if_neg h13, if_neg h14, if_neg h15, if_neg h16, if_neg h17, if_pos h18, if_neg h19]
theorem gsY_X11_done_1_q47 {NF : Nat} {p0 : Int32} {p1 : Int32} {p2 : Int32} {v : Nat → Int32} {f : Nat → Nat → Int32} {w : Int64} {g : Nat → Int64} {r176 : Int32} (h0 : ¬ (p0 = 37)) (h1 : ¬ (p0 = 38)) (h2 : ¬ (p0 = 39)) (h3 : ¬ (p0 = 40)) (h4 : ¬ (p0 = 41)) (h5 : ¬ (p0 = 42)) (h6 : ¬ (p0 = 43)) (h7 : ¬ (p0 = 44)) (h8 : ¬ (p0 = 45)) (h9 : ¬ (p0 = 46)) (h10 : ¬ (p0 = 47)) (h11 : ¬ (p0 = 48)) (h12 : ¬ (p0 = 49)) (h13 : ¬ (p0 = 50)) (h14 : ¬ (p0 = 51)) (h15 : ¬ (p0 = 52)) (h16 : ¬ (p0 = 53)) (h17 : ¬ (p0 = 54)) (h18 : (p0 = 55)) (h19 : (p1 = 0)) (h20 : (p2 = 0)) (h21 : r176 = gsY_X11_truth_1 NF 0 v f w g) : gsY_X11_done_1 NF p0 p1 p2 v f w g = r176 := by
  subst h21
  simp only [gsY_X11_done_1, if_neg h0, if_neg h1, if_neg h2, if_neg h3, if_neg h4, if_neg h5, if_neg h6, if_neg h7, if_neg h8, if_neg h9, if_neg h10, if_neg h11, if_neg h12, if_neg h13, if_neg h14, if_neg h15, if_neg h16, if_neg h17, if_pos h18, if_pos h19, if_pos h20]
theorem gsY_X11_done_1_q48 {NF : Nat} {p0 : Int32} {p1 : Int32} {p2 : Int32} {v : Nat → Int32} {f : Nat → Nat → Int32} {w : Int64} {g : Nat → Int64} {r179 : Int32} (h0 : ¬ (p0 = 37)) (h1 : ¬ (p0 = 38)) (h2 : ¬ (p0 = 39)) (h3 : ¬ (p0 = 40)) (h4 : ¬ (p0 = 41)) (h5 : ¬ (p0 = 42)) (h6 : ¬ (p0 = 43)) (h7 : ¬ (p0 = 44)) (h8 : ¬ (p0 = 45)) (h9 : ¬ (p0 = 46)) (h10 : ¬ (p0 = 47)) (h11 : ¬ (p0 = 48)) (h12 : ¬ (p0 = 49)) (h13 : ¬ (p0 = 50)) (h14 : ¬ (p0 = 51)) (h15 : ¬ (p0 = 52)) (h16 : ¬ (p0 = 53)) (h17 : ¬ (p0 = 54)) (h18 : (p0 = 55)) (h19 : (p1 = 0)) (h20 : ¬ (p2 = 0)) (h21 : r179 = gsY_X11_truth_1 NF 1 v f w g) : gsY_X11_done_1 NF p0 p1 p2 v f w g = r179 := by
  subst h21
  simp only [gsY_X11_done_1, if_neg h0, if_neg h1, if_neg h2, if_neg h3, if_neg h4, if_neg h5, if_neg h6, if_neg h7, if_neg h8, if_neg h9, if_neg h10, if_neg h11, if_neg h12, if_neg h13, if_neg h14, if_neg h15, if_neg h16, if_neg h17, if_pos h18, if_pos h19, if_neg h20]
theorem gsY_X11_done_1_q49 {NF : Nat} {p0 : Int32} {p1 : Int32} {p2 : Int32} {v : Nat → Int32} {f : Nat → Nat → Int32} {w : Int64} {g : Nat → Int64} {r184 : Int32} (h0 : ¬ (p0 = 37)) (h1 : ¬ (p0 = 38)) (h2 : ¬ (p0 = 39)) (h3 : ¬ (p0 = 40)) (h4 : ¬ (p0 = 41)) (h5 : ¬ (p0 = 42)) (h6 : ¬ (p0 = 43)) (h7 : ¬ (p0 = 44)) (h8 : ¬ (p0 = 45)) (h9 : ¬ (p0 = 46)) (h10 : ¬ (p0 = 47)) (h11 : ¬ (p0 = 48)) (h12 : ¬ (p0 = 49)) (h13 : ¬ (p0 = 50)) (h14 : ¬ (p0 = 51)) (h15 : ¬ (p0 = 52)) (h16 : ¬ (p0 = 53)) (h17 : ¬ (p0 = 54)) (h18 : ¬ (p0 = 55)) (h19 : (p0 = 56)) (h20 : ¬ (p1 = 0)) (h21 : r184 = gsY_X11_truth_1 NF 1 v f w g) : gsY_X11_done_1 NF p0 p1 p2 v f w g = r184 := by
  subst h21
  simp only [gsY_X11_done_1, if_neg h0, if_neg h1, if_neg h2, if_neg h3, if_neg h4, if_neg h5, if_neg h6, if_neg h7, if_neg h8, if_neg h9, if_neg h10, if_neg h11, if_neg h12, if_neg h13, if_neg h14, if_neg h15, if_neg h16, if_neg h17, if_neg h18, if_pos h19, if_neg h20]
theorem gsY_X11_done_1_q50 {NF : Nat} {p0 : Int32} {p1 : Int32} {p2 : Int32} {v : Nat → Int32} {f : Nat → Nat → Int32} {w : Int64} {g : Nat → Int64} {r188 : Int32} (h0 : ¬ (p0 = 37)) (h1 : ¬ (p0 = 38)) (h2 : ¬ (p0 = 39)) (h3 : ¬ (p0 = 40)) (h4 : ¬ (p0 = 41)) (h5 : ¬ (p0 = 42)) (h6 : ¬ (p0 = 43)) (h7 : ¬ (p0 = 44)) (h8 : ¬ (p0 = 45)) (h9 : ¬ (p0 = 46)) (h10 : ¬ (p0 = 47)) (h11 : ¬ (p0 = 48)) (h12 : ¬ (p0 = 49)) (h13 : ¬ (p0 = 50)) (h14 : ¬ (p0 = 51)) (h15 : ¬ (p0 = 52)) (h16 : ¬ (p0 = 53)) (h17 : ¬ (p0 = 54)) (h18 : ¬ (p0 = 55)) (h19 : (p0 = 56)) (h20 : (p1 = 0)) (h21 : (p2 = 0)) (h22 : r188 = gsY_X11_truth_1 NF 0 v f w g) : gsY_X11_done_1 NF p0 p1 p2 v f w g = r188 := by
  subst h22
  simp only [gsY_X11_done_1, if_neg h0, if_neg h1, if_neg h2, if_neg h3, if_neg h4, if_neg h5, if_neg h6, if_neg h7, if_neg h8, if_neg h9, if_neg h10, if_neg h11, if_neg h12, if_neg h13, if_neg h14, if_neg h15, if_neg h16, if_neg h17, if_neg h18, if_pos h19, if_pos h20, if_pos h21]
theorem gsY_X11_done_1_q51 {NF : Nat} {p0 : Int32} {p1 : Int32} {p2 : Int32} {v : Nat → Int32} {f : Nat → Nat → Int32} {w : Int64} {g : Nat → Int64} {r191 : Int32} (h0 : ¬ (p0 = 37)) (h1 : ¬ (p0 = 38)) (h2 : ¬ (p0 = 39)) (h3 : ¬ (p0 = 40)) (h4 : ¬ (p0 = 41)) (h5 : ¬ (p0 = 42)) (h6 : ¬ (p0 = 43)) (h7 : ¬ (p0 = 44)) (h8 : ¬ (p0 = 45)) (h9 : ¬ (p0 = 46)) (h10 : ¬ (p0 = 47)) (h11 : ¬ (p0 = 48)) (h12 : ¬ (p0 = 49)) (h13 : ¬ (p0 = 50)) (h14 : ¬ (p0 = 51)) (h15 : ¬ (p0 = 52)) (h16 : ¬ (p0 = 53)) (h17 : ¬ (p0 = 54)) (h18 : ¬ (p0 = 55)) (h19 : (p0 = 56)) (h20 : (p1 = 0)) (h21 : ¬ (p2 = 0)) (h22 : r191 = gsY_X11_truth_1 NF 1 v f w g) : gsY_X11_done_1 NF p0 p1 p2 v f w g = r191 := by
  subst h22
  simp only [gsY_X11_done_1, if_neg h0, if_neg h1, if_neg h2, if_neg h3, if_neg h4, if_neg h5, if_neg h6, if_neg h7, if_neg h8, if_neg h9, if_neg h10, if_neg h11, if_neg h12, if_neg h13, if_neg h14, if_neg h15, if_neg h16, if_neg h17, if_neg h18, if_pos h19, if_pos h20, if_neg h21]
theorem gsY_X11_done_1_q52 {NF : Nat} {p0 : Int32} {p1 : Int32} {p2 : Int32} {v : Nat → Int32} {f : Nat → Nat → Int32} {w : Int64} {g : Nat → Int64} {r196 : Int32} (h0 : ¬ (p0 = 37)) (h1 : ¬ (p0 = 38)) (h2 : ¬ (p0 = 39)) (h3 : ¬ (p0 = 40)) (h4 : ¬ (p0 = 41)) (h5 : ¬ (p0 = 42)) (h6 : ¬ (p0 = 43)) (h7 : ¬ (p0 = 44)) (h8 : ¬ (p0 = 45)) (h9 : ¬ (p0 = 46)) (h10 : ¬ (p0 = 47)) (h11 : ¬ (p0 = 48)) (h12 : ¬ (p0 = 49)) (h13 : ¬ (p0 = 50)) (h14 : ¬ (p0 = 51)) (h15 : ¬ (p0 = 52)) (h16 : ¬ (p0 = 53)) (h17 : ¬ (p0 = 54)) (h18 : ¬ (p0 = 55)) (h19 : ¬ (p0 = 56)) (h20 : (p0 = 57)) (h21 : ¬ (p1 = 0)) (h22 : r196 = gsY_X11_truth_1 NF 1 v f w g) : gsY_X11_done_1 NF p0 p1 p2 v f w g = r196 := by
  subst h22
  simp only [gsY_X11_done_1, if_neg h0, if_neg h1, if_neg h2, if_neg h3, if_neg h4, if_neg h5, if_neg h6, if_neg h7, if_neg h8, if_neg h9, if_neg h10, if_neg h11, if_neg h12, if_neg h13, if_neg h14, if_neg h15, if_neg h16, if_neg h17, if_neg h18, if_neg h19, if_pos h20, if_neg h21]
theorem gsY_X11_done_1_q53 {NF : Nat} {p0 : Int32} {p1 : Int32} {p2 : Int32} {v : Nat → Int32} {f : Nat → Nat → Int32} {w : Int64} {g : Nat → Int64} {r200 : Int32} (h0 : ¬ (p0 = 37)) (h1 : ¬ (p0 = 38)) (h2 : ¬ (p0 = 39)) (h3 : ¬ (p0 = 40)) (h4 : ¬ (p0 = 41)) (h5 : ¬ (p0 = 42)) (h6 : ¬ (p0 = 43)) (h7 : ¬ (p0 = 44)) (h8 : ¬ (p0 = 45)) (h9 : ¬ (p0 = 46)) (h10 : ¬ (p0 = 47)) (h11 : ¬ (p0 = 48)) (h12 : ¬ (p0 = 49)) (h13 : ¬ (p0 = 50)) (h14 : ¬ (p0 = 51)) (h15 : ¬ (p0 = 52)) (h16 : ¬ (p0 = 53)) (h17 : ¬ (p0 = 54)) (h18 : ¬ (p0 = 55)) (h19 : ¬ (p0 = 56)) (h20 : (p0 = 57)) (h21 : (p1 = 0)) (h22 : (p2 = 0)) (h23 : r200 = gsY_X11_truth_1 NF 0 v f w g) : gsY_X11_done_1 NF p0 p1 p2 v f w g = r200 := by
  subst h23
  simp only [gsY_X11_done_1, if_neg h0, if_neg h1, if_neg h2, if_neg h3, if_neg h4, if_neg h5, if_neg h6, if_neg h7, if_neg h8, if_neg h9, if_neg h10, if_neg h11, if_neg h12, if_neg h13, if_neg h14, if_neg h15, if_neg h16, if_neg h17, if_neg h18, if_neg h19, if_pos h20, if_pos h21, if_pos h22]
theorem gsY_X11_done_1_q54 {NF : Nat} {p0 : Int32} {p1 : Int32} {p2 : Int32} {v : Nat → Int32} {f : Nat → Nat → Int32} {w : Int64} {g : Nat → Int64} {r203 : Int32} (h0 : ¬ (p0 = 37)) (h1 : ¬ (p0 = 38)) (h2 : ¬ (p0 = 39)) (h3 : ¬ (p0 = 40)) (h4 : ¬ (p0 = 41)) (h5 : ¬ (p0 = 42)) (h6 : ¬ (p0 = 43)) (h7 : ¬ (p0 = 44)) (h8 : ¬ (p0 = 45)) (h9 : ¬ (p0 = 46)) (h10 : ¬ (p0 = 47)) (h11 : ¬ (p0 = 48)) (h12 : ¬ (p0 = 49)) (h13 : ¬ (p0 = 50)) (h14 : ¬ (p0 = 51)) (h15 : ¬ (p0 = 52)) (h16 : ¬ (p0 = 53)) (h17 : ¬ (p0 = 54)) (h18 : ¬ (p0 = 55)) (h19 : ¬ (p0 = 56)) (h20 : (p0 = 57)) (h21 : (p1 = 0)) (h22 : ¬ (p2 = 0)) (h23 : r203 = gsY_X11_truth_1 NF 1 v f w g) : gsY_X11_done_1 NF p0 p1 p2 v f w g = r203 := by
  subst h23
  simp only [gsY_X11_done_1, if_neg h0, if_neg h1, if_neg h2, if_neg h3, if_neg h4, if_neg h5, if_neg h6, if_neg h7, if_neg h8, if_neg h9, if_neg h10, if_neg h11, if_neg h12, if_neg h13, if_neg h14, if_neg h15, if_neg h16, if_neg h17, if_neg h18, if_neg h19, if_pos h20, if_pos h21, if_neg h22]
theorem gsY_X11_done_1_q55 {NF : Nat} {p0 : Int32} {p1 : Int32} {p2 : Int32} {v : Nat → Int32} {f : Nat → Nat → Int32} {w : Int64} {g : Nat → Int64} {r208 : Int32} (h0 : ¬ (p0 = 37)) (h1 : ¬ (p0 = 38)) (h2 : ¬ (p0 = 39)) (h3 : ¬ (p0 = 40)) (h4 : ¬ (p0 = 41)) (h5 : ¬ (p0 = 42)) (h6 : ¬ (p0 = 43)) (h7 : ¬ (p0 = 44)) (h8 : ¬ (p0 = 45)) (h9 : ¬ (p0 = 46)) (h10 : ¬ (p0 = 47)) (h11 : ¬ (p0 = 48)) (h12 : ¬ (p0 = 49)) (h13 : ¬ (p0 = 50)) (h14 : ¬ (p0 = 51)) (h15 : ¬ (p0 = 52)) (h16 : ¬ (p0 = 53)) (h17 : ¬ (p0 = 54)) (h18 : ¬ (p0 = 55)) (h19 : ¬ (p0 = 56)) (h20 : ¬ (p0 = 57)) (h21 : (p0 = 58)) (h22 : ¬ (p1 = 0)) (h23 : r208 = gsY_X11_truth_1 NF 1 v f w g) : gsY_X11_done_1 NF p0 p1 p2 v f w g = r208 := by
  subst h23
  simp only [gsY_X11_done_1, if_neg h0, if_neg h1, if_neg h2, if_neg h3, if_neg h4, if_neg h5, if_neg h6, if_neg h7, if_neg h8, if_neg h9, if_neg h10, if_neg h11, if_neg h12, if_neg h13, if_neg h14, if_neg h15, if_neg h16, if_neg h17, if_neg h18, if_neg h19, if_neg h20, if_pos h21, if_neg h22]
theorem gsY_X11_done_1_q56 {NF : Nat} {p0 : Int32} {p1 : Int32} {p2 : Int32} {v : Nat → Int32} {f : Nat → Nat → Int32} {w : Int64} {g : Nat → Int64} {r212 : Int32} (h0 : ¬ (p0 = 37)) (h1 : ¬ (p0 = 38)) (h2 : ¬ (p0 = 39)) (h3 : ¬ (p0 = 40)) (h4 : ¬ (p0 = 41)) (h5 : ¬ (p0 = 42)) (h6 : ¬ (p0 = 43)) (h7 : ¬ (p0 = 44)) (h8 : ¬ (p0 = 45)) (h9 : ¬ (p0 = 46)) (h10 : ¬ (p0 = 47)) (h11 : ¬ (p0 = 48)) (h12 : ¬ (p0 = 49)) (h13 : ¬ (p0 = 50)) (h14 : ¬ (p0 = 51)) (h15 : ¬ (p0 = 52)) (h16 : ¬ (p0 = 53)) (h17 : ¬ (p0 = 54)) (h18 : ¬ (p0 = 55)) (h19 : ¬ (p0 = 56)) (h20 : ¬ (p0 = 57)) (h21 : (p0 = 58)) (h22 : (p1 = 0)) (h23 : (p2 = 0)) (h24 : r212 = gsY_X11_truth_1 NF 0 v f w g) : gsY_X11_done_1 NF p0 p1 p2 v f w g = r212 := by
  subst h24
  simp only [gsY_X11_done_1, if_neg h0, if_neg h1, if_neg h2, if_neg h3, if_neg h4, if_neg h5, if_neg h6, if_neg h7, if_neg h8, if_neg h9, if_neg h10, if_neg h11, if_neg h12, if_neg h13, if_neg h14, if_neg h15, if_neg h16, if_neg h17, if_neg h18, if_neg h19, if_neg h20, if_pos h21, if_pos h22, if_pos h23]
theorem gsY_X11_done_1_q57 {NF : Nat} {p0 : Int32} {p1 : Int32} {p2 : Int32} {v : Nat → Int32} {f : Nat → Nat → Int32} {w : Int64} {g : Nat → Int64} {r215 : Int32} (h0 : ¬ (p0 = 37)) (h1 : ¬ (p0 = 38)) (h2 : ¬ (p0 = 39)) (h3 : ¬ (p0 = 40)) (h4 : ¬ (p0 = 41)) (h5 : ¬ (p0 = 42)) (h6 : ¬ (p0 = 43)) (h7 : ¬ (p0 = 44)) (h8 : ¬ (p0 = 45)) (h9 : ¬ (p0 = 46)) (h10 : ¬ (p0 = 47)) (h11 : ¬ (p0 = 48)) (h12 : ¬ (p0 = 49)) (h13 : ¬ (p0 = 50)) (h14 : ¬ (p0 = 51)) (h15 : ¬ (p0 = 52)) (h16 : ¬ (p0 = 53)) (h17 : ¬ (p0 = 54)) (h18 : ¬ (p0 = 55)) (h19 : ¬ (p0 = 56)) (h20 : ¬ (p0 = 57)) (h21 : (p0 = 58)) (h22 : (p1 = 0)) (h23 : ¬ (p2 = 0)) (h24 : r215 = gsY_X11_truth_1 NF 1 v f w g) : gsY_X11_done_1 NF p0 p1 p2 v f w g = r215 := by
  subst h24
  simp only [gsY_X11_done_1, if_neg h0, if_neg h1, if_neg h2, if_neg h3, if_neg h4, if_neg h5, if_neg h6, if_neg h7, if_neg h8, if_neg h9, if_neg h10, if_neg h11, if_neg h12, if_neg h13, if_neg h14, if_neg h15, if_neg h16, if_neg h17, if_neg h18, if_neg h19, if_neg h20, if_pos h21, if_pos h22, if_neg h23]
theorem gsY_X11_done_1_q58 {NF : Nat} {p0 : Int32} {p1 : Int32} {p2 : Int32} {v : Nat → Int32} {f : Nat → Nat → Int32} {w : Int64} {g : Nat → Int64} {r220 : Int32} (h0 : ¬ (p0 = 37)) (h1 : ¬ (p0 = 38)) (h2 : ¬ (p0 = 39)) (h3 : ¬ (p0 = 40)) (h4 : ¬ (p0 = 41)) (h5 : ¬ (p0 = 42)) (h6 : ¬ (p0 = 43)) (h7 : ¬ (p0 = 44)) (h8 : ¬ (p0 = 45)) (h9 : ¬ (p0 = 46)) (h10 : ¬ (p0 = 47)) (h11 : ¬ (p0 = 48)) (h12 : ¬ (p0 = 49)) (h13 : ¬ (p0 = 50)) (h14 : ¬ (p0 = 51)) (h15 : ¬ (p0 = 52)) (h16 : ¬ (p0 = 53)) (h17 : ¬ (p0 = 54)) (h18 : ¬ (p0 = 55)) (h19 : ¬ (p0 = 56)) (h20 : ¬ (p0 = 57)) (h21 : ¬ (p0 = 58)) (h22 : (p0 = 59)) (h23 : ¬ (p1 = 0)) (h24 : r220 = gsY_X11_truth_1 NF 1 v f w g) : gsY_X11_done_1 NF p0 p1 p2 v f w g = r220 := by
  subst h24
  simp only [gsY_X11_done_1, if_neg h0, if_neg h1, if_neg h2, if_neg h3, if_neg h4, if_neg h5, if_neg h6, if_neg h7, if_neg h8, if_neg h9, if_neg h10, if_neg h11, if_neg h12, if_neg h13, if_neg h14, if_neg h15, if_neg h16, if_neg h17, if_neg h18, if_neg h19, if_neg h20, if_neg h21, if_pos h22, if_neg h23]
theorem gsY_X11_done_1_q59 {NF : Nat} {p0 : Int32} {p1 : Int32} {p2 : Int32} {v : Nat → Int32} {f : Nat → Nat → Int32} {w : Int64} {g : Nat → Int64} {r224 : Int32} (h0 : ¬ (p0 = 37)) (h1 : ¬ (p0 = 38)) (h2 : ¬ (p0 = 39)) (h3 : ¬ (p0 = 40)) (h4 : ¬ (p0 = 41)) (h5 : ¬ (p0 = 42)) (h6 : ¬ (p0 = 43)) (h7 : ¬ (p0 = 44)) (h8 : ¬ (p0 = 45)) (h9 : ¬ (p0 = 46)) (h10 : ¬ (p0 = 47)) (h11 : ¬ (p0 = 48)) (h12 : ¬ (p0 = 49)) (h13 : ¬ (p0 = 50)) (h14 : ¬ (p0 = 51)) (h15 : ¬ (p0 = 52)) (h16 : ¬ (p0 = 53)) (h17 : ¬ (p0 = 54)) (h18 : ¬ (p0 = 55)) (h19 : ¬ (p0 = 56)) (h20 : ¬ (p0 = 57)) (h21 : ¬ (p0 = 58)) (h22 : (p0 = 59)) (h23 : (p1 = 0)) (h24 : (p2 = 0)) (h25 : r224 = gsY_X11_truth_1 NF 0 v f w g) : gsY_X11_done_1 NF p0 p1 p2 v f w g = r224 := by
  subst h25
  simp only [gsY_X11_done_1, if_neg h0, if_neg h1, if_neg h2, if_neg h3, if_neg h4, if_neg h5, if_neg h6, if_neg h7, if_neg h8, if_neg h9, if_neg h10, if_neg h11, if_neg h12, if_neg h13, if_neg h14, if_neg h15, if_neg h16, if_neg h17, if_neg h18, if_neg h19, if_neg h20, if_neg h21, if_pos h22, if_pos h23, if_pos h24]
theorem gsY_X11_done_1_q60 {NF : Nat} {p0 : Int32} {p1 : Int32} {p2 : Int32} {v : Nat → Int32} {f : Nat → Nat → Int32} {w : Int64} {g : Nat → Int64} {r227 : Int32} (h0 : ¬ (p0 = 37)) (h1 : ¬ (p0 = 38)) (h2 : ¬ (p0 = 39)) (h3 : ¬ (p0 = 40)) (h4 : ¬ (p0 = 41)) (h5 : ¬ (p0 = 42)) (h6 : ¬ (p0 = 43)) (h7 : ¬ (p0 = 44)) (h8 : ¬ (p0 = 45)) (h9 : ¬ (p0 = 46)) (h10 : ¬ (p0 = 47)) (h11 : ¬ (p0 = 48)) (h12 : ¬ (p0 = 49)) (h13 : ¬ (p0 = 50)) (h14 : ¬ (p0 = 51)) (h15 : ¬ (p0 = 52)) (h16 : ¬ (p0 = 53)) (h17 : ¬ (p0 = 54)) (h18 : ¬ (p0 = 55)) (h19 : ¬ (p0 = 56)) (h20 : ¬ (p0 = 57)) (h21 : ¬ (p0 = 58)) (h22 : (p0 = 59)) (h23 : (p1 = 0)) (h24 : ¬ (p2 = 0)) (h25 : r227 = gsY_X11_truth_1 NF 1 v f w g) : gsY_X11_done_1 NF p0 p1 p2 v f w g = r227 := by
  subst h25
  simp only [gsY_X11_done_1, if_neg h0, if_neg h1, if_neg h2, if_neg h3, if_neg h4, if_neg h5, if_neg h6, if_neg h7, if_neg h8, if_neg h9, if_neg h10, if_neg h11, if_neg h12, if_neg h13, if_neg h14, if_neg h15, if_neg h16, if_neg h17, if_neg h18, if_neg h19, if_neg h20, if_neg h21, if_pos h22, if_pos h23, if_neg h24]
theorem gsY_X11_done_1_q61 {NF : Nat} {p0 : Int32} {p1 : Int32} {p2 : Int32} {v : Nat → Int32} {f : Nat → Nat → Int32} {w : Int64} {g : Nat → Int64} {r234 : Int32} (h0 : ¬ (p0 = 37)) (h1 : ¬ (p0 = 38)) (h2 : ¬ (p0 = 39)) (h3 : ¬ (p0 = 40)) (h4 : ¬ (p0 = 41)) (h5 : ¬ (p0 = 42)) (h6 : ¬ (p0 = 43)) (h7 : ¬ (p0 = 44)) (h8 : ¬ (p0 = 45)) (h9 : ¬ (p0 = 46)) (h10 : ¬ (p0 = 47)) (h11 : ¬ (p0 = 48)) (h12 : ¬ (p0 = 49)) (h13 : ¬ (p0 = 50)) (h14 : ¬ (p0 = 51)) (h15 : ¬ (p0 = 52)) (h16 : ¬ (p0 = 53)) (h17 : ¬ (p0 = 54)) (h18 : ¬ (p0 = 55)) (h19 : ¬ (p0 = 56)) (h20 : ¬ (p0 = 57)) (h21 : ¬ (p0 = 58)) (h22 : ¬ (p0 = 59)) (h23 : (p0 = 60)) (h24 : (p2 ≤ p1)) (h25 : r234 = gsY_X11_truth_1 NF 0 v f w g) : gsY_X11_done_1 NF p0 p1 p2 v f w g = r234 := by
  subst h25
  simp only [gsY_X11_done_1, if_neg h0, if_neg h1, if_neg h2, if_neg h3, if_neg h4, if_neg h5, if_neg h6, if_neg h7, if_neg h8, if_neg h9, if_neg h10, if_neg h11, if_neg h12, if_neg h13, if_neg h14, if_neg h15, if_neg h16, if_neg h17, if_neg h18, if_neg h19, if_neg h20, if_neg h21, if_neg h22, if_pos h23, if_pos h24]
theorem gsY_X11_done_1_q62 {NF : Nat} {p0 : Int32} {p1 : Int32} {p2 : Int32} {v : Nat → Int32} {f : Nat → Nat → Int32} {w : Int64} {g : Nat → Int64} {r239 : Int32} (h0 : ¬ (p0 = 37)) (h1 : ¬ (p0 = 38)) (h2 : ¬ (p0 = 39)) (h3 : ¬ (p0 = 40)) (h4 : ¬ (p0 = 41)) (h5 : ¬ (p0 = 42)) (h6 : ¬ (p0 = 43)) (h7 : ¬ (p0 = 44)) (h8 : ¬ (p0 = 45)) (h9 : ¬ (p0 = 46)) (h10 : ¬ (p0 = 47)) (h11 : ¬ (p0 = 48)) (h12 : ¬ (p0 = 49)) (h13 : ¬ (p0 = 50)) (h14 : ¬ (p0 = 51)) (h15 : ¬ (p0 = 52)) (h16 : ¬ (p0 = 53)) (h17 : ¬ (p0 = 54)) (h18 : ¬ (p0 = 55)) (h19 : ¬ (p0 = 56)) (h20 : ¬ (p0 = 57)) (h21 : ¬ (p0 = 58)) (h22 : ¬ (p0 = 59)) (h23 : (p0 = 60)) (h24 : ¬ (p2 ≤ p1)) (h25 : r239 = gsY_X11_truth_1 NF 1 v f w g) : gsY_X11_done_1 NF p0 p1 p2 v f w g = r239 := by
  subst h25
  simp only [gsY_X11_done_1, if_neg h0, if_neg h1, if_neg h2, if_neg h3, if_neg h4, if_neg h5, if_neg h6, if_neg h7, if_neg h8, if_neg h9, if_neg h10, if_neg h11, if_neg h12, if_neg h13, if_neg h14, if_neg h15, if_neg h16, if_neg h17, if_neg h18, if_neg h19, if_neg h20, if_neg h21, if_neg h22, if_pos h23, if_neg h24]
theorem gsY_X11_done_1_q63 {NF : Nat} {p0 : Int32} {p1 : Int32} {p2 : Int32} {v : Nat → Int32} {f : Nat → Nat → Int32} {w : Int64} {g : Nat → Int64} {r246 : Int32} (h0 : ¬ (p0 = 37)) (h1 : ¬ (p0 = 38)) (h2 : ¬ (p0 = 39)) (h3 : ¬ (p0 = 40)) (h4 : ¬ (p0 = 41)) (h5 : ¬ (p0 = 42)) (h6 : ¬ (p0 = 43)) (h7 : ¬ (p0 = 44)) (h8 : ¬ (p0 = 45)) (h9 : ¬ (p0 = 46)) (h10 : ¬ (p0 = 47)) (h11 : ¬ (p0 = 48)) (h12 : ¬ (p0 = 49)) (h13 : ¬ (p0 = 50)) (h14 : ¬ (p0 = 51)) (h15 : ¬ (p0 = 52)) (h16 : ¬ (p0 = 53)) (h17 : ¬ (p0 = 54)) (h18 : ¬ (p0 = 55)) (h19 : ¬ (p0 = 56)) (h20 : ¬ (p0 = 57)) (h21 : ¬ (p0 = 58)) (h22 : ¬ (p0 = 59)) (h23 : ¬ (p0 = 60)) (h24 : (p0 = 61)) (h25 : ¬ (p1 = p2)) (h26 : r246 = gsY_X11_truth_1 NF 0 v f w g) : gsY_X11_done_1 NF p0 p1 p2 v f w g = r246 := by
  subst h26
  simp only [gsY_X11_done_1, if_neg h0, if_neg h1, if_neg h2, if_neg h3, if_neg h4, if_neg h5, if_neg h6, if_neg h7, if_neg h8, if_neg h9, if_neg h10, if_neg h11, if_neg h12, if_neg h13, if_neg h14, if_neg h15, if_neg h16, if_neg h17, if_neg h18, if_neg h19, if_neg h20, if_neg h21, if_neg h22, if_neg h23, if_pos h24, if_neg h25]
theorem gsY_X11_done_1_q64 {NF : Nat} {p0 : Int32} {p1 : Int32} {p2 : Int32} {v : Nat → Int32} {f : Nat → Nat → Int32} {w : Int64} {g : Nat → Int64} {r251 : Int32} (h0 : ¬ (p0 = 37)) (h1 : ¬ (p0 = 38)) (h2 : ¬ (p0 = 39)) (h3 : ¬ (p0 = 40)) (h4 : ¬ (p0 = 41)) (h5 : ¬ (p0 = 42)) (h6 : ¬ (p0 = 43)) (h7 : ¬ (p0 = 44)) (h8 : ¬ (p0 = 45)) (h9 : ¬ (p0 = 46)) (h10 : ¬ (p0 = 47)) (h11 : ¬ (p0 = 48)) (h12 : ¬ (p0 = 49)) (h13 : ¬ (p0 = 50)) (h14 : ¬ (p0 = 51)) (h15 : ¬ (p0 = 52)) (h16 : ¬ (p0 = 53)) (h17 : ¬ (p0 = 54)) (h18 : ¬ (p0 = 55)) (h19 : ¬ (p0 = 56)) (h20 : ¬ (p0 = 57)) (h21 : ¬ (p0 = 58)) (h22 : ¬ (p0 = 59)) (h23 : ¬ (p0 = 60)) (h24 : (p0 = 61)) (h25 : (p1 = p2)) (h26 : r251 = gsY_X11_truth_1 NF 1 v f w g) : gsY_X11_done_1 NF p0 p1 p2 v f w g = r251 := by
  subst h26
  simp only [gsY_X11_done_1, if_neg h0, if_neg h1, if_neg h2, if_neg h3, if_neg h4, if_neg h5, if_neg h6, if_neg h7, if_neg h8, if_neg h9, if_neg h10, if_neg h11, if_neg h12, if_neg h13, if_neg h14, if_neg h15, if_neg h16, if_neg h17, if_neg h18, if_neg h19, if_neg h20, if_neg h21, if_neg h22, if_neg h23, if_pos h24, if_pos h25]
theorem gsY_X11_done_1_q65 {NF : Nat} {p0 : Int32} {p1 : Int32} {p2 : Int32} {v : Nat → Int32} {f : Nat → Nat → Int32} {w : Int64} {g : Nat → Int64} {r258 : Int32} (h0 : ¬ (p0 = 37)) (h1 : ¬ (p0 = 38)) (h2 : ¬ (p0 = 39)) (h3 : ¬ (p0 = 40)) (h4 : ¬ (p0 = 41)) (h5 : ¬ (p0 = 42)) (h6 : ¬ (p0 = 43)) (h7 : ¬ (p0 = 44)) (h8 : ¬ (p0 = 45)) (h9 : ¬ (p0 = 46)) (h10 : ¬ (p0 = 47)) (h11 : ¬ (p0 = 48)) (h12 : ¬ (p0 = 49)) (h13 : ¬ (p0 = 50)) (h14 : ¬ (p0 = 51)) (h15 : ¬ (p0 = 52)) (h16 : ¬ (p0 = 53)) (h17 : ¬ (p0 = 54)) (h18 : ¬ (p0 = 55)) (h19 : ¬ (p0 = 56)) (h20 : ¬ (p0 = 57)) (h21 : ¬ (p0 = 58)) (h22 : ¬ (p0 = 59)) (h23 : ¬ (p0 = 60)) (h24 : ¬ (p0 = 61)) (h25 : (p0 = 62)) (h26 : (p1 ≤ p2)) (h27 : r258 = gsY_X11_truth_1 NF 0 v f w g) : gsY_X11_done_1 NF p0 p1 p2 v f w g = r258 := by
  subst h27
  simp only [gsY_X11_done_1, if_neg h0, if_neg h1, if_neg h2, if_neg h3, if_neg h4, if_neg h5, if_neg h6, if_neg h7, if_neg h8, if_neg h9, if_neg h10, if_neg h11, if_neg h12, if_neg h13, if_neg h14, if_neg h15, if_neg h16, if_neg h17, if_neg h18, if_neg h19, if_neg h20, if_neg h21, if_neg h22, if_neg h23, if_neg h24, if_pos h25, if_pos h26]
theorem gsY_X11_done_1_q66 {NF : Nat} {p0 : Int32} {p1 : Int32} {p2 : Int32} {v : Nat → Int32} {f : Nat → Nat → Int32} {w : Int64} {g : Nat → Int64} {r263 : Int32} (h0 : ¬ (p0 = 37)) (h1 : ¬ (p0 = 38)) (h2 : ¬ (p0 = 39)) (h3 : ¬ (p0 = 40)) (h4 : ¬ (p0 = 41)) (h5 : ¬ (p0 = 42)) (h6 : ¬ (p0 = 43)) (h7 : ¬ (p0 = 44)) (h8 : ¬ (p0 = 45)) (h9 : ¬ (p0 = 46)) (h10 : ¬ (p0 = 47)) (h11 : ¬ (p0 = 48)) (h12 : ¬ (p0 = 49)) (h13 : ¬ (p0 = 50)) (h14 : ¬ (p0 = 51)) (h15 : ¬ (p0 = 52)) (h16 : ¬ (p0 = 53)) (h17 : ¬ (p0 = 54)) (h18 : ¬ (p0 = 55)) (h19 : ¬ (p0 = 56)) (h20 : ¬ (p0 = 57)) (h21 : ¬ (p0 = 58)) (h22 : ¬ (p0 = 59)) (h23 : ¬ (p0 = 60)) (h24 : ¬ (p0 = 61)) (h25 : (p0 = 62)) (h26 : ¬ (p1 ≤ p2)) (h27 : r263 = gsY_X11_truth_1 NF 1 v f w g) : gsY_X11_done_1 NF p0 p1 p2 v f w g = r263 := by
  subst h27
  simp only [gsY_X11_done_1, if_neg h0, if_neg h1, if_neg h2, if_neg h3, if_neg h4, if_neg h5, if_neg h6, if_neg h7, if_neg h8, if_neg h9, if_neg h10, if_neg h11, if_neg h12, if_neg h13, if_neg h14, if_neg h15, if_neg h16, if_neg h17, if_neg h18, if_neg h19, if_neg h20, if_neg h21, if_neg h22, if_neg h23, if_neg h24, if_pos h25, if_neg h26]
theorem gsY_X11_done_1_q67 {NF : Nat} {p0 : Int32} {p1 : Int32} {p2 : Int32} {v : Nat → Int32} {f : Nat → Nat → Int32} {w : Int64} {g : Nat → Int64} {r267 : Int32} (h0 : ¬ (p0 = 37)) (h1 : ¬ (p0 = 38)) (h2 : ¬ (p0 = 39)) (h3 : ¬ (p0 = 40)) (h4 : ¬ (p0 = 41)) (h5 : ¬ (p0 = 42)) (h6 : ¬ (p0 = 43)) (h7 : ¬ (p0 = 44)) (h8 : ¬ (p0 = 45)) (h9 : ¬ (p0 = 46)) (h10 : ¬ (p0 = 47)) (h11 : ¬ (p0 = 48)) (h12 : ¬ (p0 = 49)) (h13 : ¬ (p0 = 50)) (h14 : ¬ (p0 = 51)) (h15 : ¬ (p0 = 52)) (h16 : ¬ (p0 = 53)) (h17 : ¬ (p0 = 54)) (h18 : ¬ (p0 = 55)) (h19 : ¬ (p0 = 56)) (h20 : ¬ (p0 = 57)) (h21 : ¬ (p0 = 58)) (h22 : ¬ (p0 = 59)) (h23 : ¬ (p0 = 60)) (h24 : ¬ (p0 = 61)) (h25 : ¬ (p0 = 62)) (h26 : ¬ (p1 = 0)) (h27 : r267 = gsY_X11_truth_1 NF 1 v f w g) : gsY_X11_done_1 NF p0 p1 p2 v f w g = r267 := by
  subst h27
  simp only [gsY_X11_done_1, if_neg h0, if_neg h1, if_neg h2, if_neg h3, if_neg h4, if_neg h5, if_neg h6, if_neg h7, if_neg h8, if_neg h9, if_neg h10, if_neg h11, if_neg h12, if_neg h13, if_neg h14, if_neg h15, if_neg h16, if_neg h17, if_neg h18, if_neg h19, if_neg h20, if_neg h21, if_neg h22, if_neg h23, if_neg h24, if_neg h25, if_neg h26]
theorem gsY_X11_done_1_q68 {NF : Nat} {p0 : Int32} {p1 : Int32} {p2 : Int32} {v : Nat → Int32} {f : Nat → Nat → Int32} {w : Int64} {g : Nat → Int64} {r271 : Int32} (h0 : ¬ (p0 = 37)) (h1 : ¬ (p0 = 38)) (h2 : ¬ (p0 = 39)) (h3 : ¬ (p0 = 40)) (h4 : ¬ (p0 = 41)) (h5 : ¬ (p0 = 42)) (h6 : ¬ (p0 = 43)) (h7 : ¬ (p0 = 44)) (h8 : ¬ (p0 = 45)) (h9 : ¬ (p0 = 46)) (h10 : ¬ (p0 = 47)) (h11 : ¬ (p0 = 48)) (h12 : ¬ (p0 = 49)) (h13 : ¬ (p0 = 50)) (h14 : ¬ (p0 = 51)) (h15 : ¬ (p0 = 52)) (h16 : ¬ (p0 = 53)) (h17 : ¬ (p0 = 54)) (h18 : ¬ (p0 = 55)) (h19 : ¬ (p0 = 56)) (h20 : ¬ (p0 = 57)) (h21 : ¬ (p0 = 58)) (h22 : ¬ (p0 = 59)) (h23 : ¬ (p0 = 60)) (h24 : ¬ (p0 = 61)) (h25 : ¬ (p0 = 62)) (h26 : (p1 = 0)) (h27 : (p2 = 0)) (h28 : r271 = gsY_X11_truth_1 NF 0 v f w g) : gsY_X11_done_1 NF p0 p1 p2 v f w g = r271 := by
  subst h28
  simp only [gsY_X11_done_1, if_neg h0, if_neg h1, if_neg h2, if_neg h3, if_neg h4, if_neg h5, if_neg h6, if_neg h7, if_neg h8, if_neg h9, if_neg h10, if_neg h11, if_neg h12, if_neg h13, if_neg h14, if_neg h15, if_neg h16, if_neg h17, if_neg h18, if_neg h19, if_neg h20, if_neg h21, if_neg h22, if_neg h23, if_neg h24, if_neg h25, if_pos h26, if_pos h27]
theorem gsY_X11_done_1_q69 {NF : Nat} {p0 : Int32} {p1 : Int32} {p2 : Int32} {v : Nat → Int32} {f : Nat → Nat → Int32} {w : Int64} {g : Nat → Int64} {r274 : Int32} (h0 : ¬ (p0 = 37)) (h1 : ¬ (p0 = 38)) (h2 : ¬ (p0 = 39)) (h3 : ¬ (p0 = 40)) (h4 : ¬ (p0 = 41)) (h5 : ¬ (p0 = 42)) (h6 : ¬ (p0 = 43)) (h7 : ¬ (p0 = 44)) (h8 : ¬ (p0 = 45)) (h9 : ¬ (p0 = 46)) (h10 : ¬ (p0 = 47)) (h11 : ¬ (p0 = 48)) (h12 : ¬ (p0 = 49)) (h13 : ¬ (p0 = 50)) (h14 : ¬ (p0 = 51)) (h15 : ¬ (p0 = 52)) (h16 : ¬ (p0 = 53)) (h17 : ¬ (p0 = 54)) (h18 : ¬ (p0 = 55)) (h19 : ¬ (p0 = 56)) (h20 : ¬ (p0 = 57)) (h21 : ¬ (p0 = 58)) (h22 : ¬ (p0 = 59)) (h23 : ¬ (p0 = 60)) (h24 : ¬ (p0 = 61)) (h25 : ¬ (p0 = 62)) (h26 : (p1 = 0)) (h27 : ¬ (p2 = 0)) (h28 : r274 = gsY_X11_truth_1 NF 1 v f w g) : gsY_X11_done_1 NF p0 p1 p2 v f w g = r274 := by
  subst h28
  simp only [gsY_X11_done_1, if_neg h0, if_neg h1, if_neg h2, if_neg h3, if_neg h4, if_neg h5, if_neg h6, if_neg h7, if_neg h8, if_neg h9, if_neg h10, if_neg h11, if_neg h12, if_neg h13, if_neg h14, if_neg h15, if_neg h16, if_neg h17, if_neg h18, if_neg h19, if_neg h20, if_neg h21, if_neg h22, if_neg h23, if_neg h24, if_neg h25, if_pos h26, if_neg h27]
def gsY_X11_misfitOf_1_L30 (NF : Nat) (v : Nat → Int32) : Nat → (Int32) → (Int32) → (Nat → Int32) → (Nat → Nat → Int32) → (Int64) → (Nat → Int64) → Int32 × (Nat → Int32) × (Nat → Nat → Int32) × (Int64) × (Nat → Int64)
  | 0, _, _, _, _, _, _ => (0, (fun _ => 0), (fun _ _ => 0), 0, (fun _ => 0))
  | n30 + 1, l3_30, l4_30, v30, f30, w30, g30 =>
    if (v 9) ≤ l4_30 then
      let t34 : Int32 := f30 7 (0 : Int32).toNatClampNeg
      let r35 : Int32 := gsY_X11_within_1 NF t34 999 v30 f30 w30 g30
      (r35, v30, f30, w30, g30)
    else
      let t39 : Int32 := f30 4 (l4_30).toNatClampNeg
      if t39 = 0 then
        if t39 = 0 then
          let t50 : Int32 := f30 5 (l4_30).toNatClampNeg
          let f51 : Nat → Nat → Int32 := upd2 f30 7 (upd (f30 7) l3_30.toNatClampNeg t50)
          let t52 : Int32 := l3_30 + 1
          let t54 : Int32 := l4_30 + 1
          gsY_X11_misfitOf_1_L30 NF v n30 t52 t54 v30 f51 w30 g30
        else
          let t42 : Int32 := f30 5 (l4_30).toNatClampNeg
          let t43 : Int32 := f30 8 (t42).toNatClampNeg
          let f44 : Nat → Nat → Int32 := upd2 f30 7 (upd (f30 7) l3_30.toNatClampNeg t43)
          let t45 : Int32 := l3_30 + 1
          let t47 : Int32 := l4_30 + 1
          gsY_X11_misfitOf_1_L30 NF v n30 t45 t47 v30 f44 w30 g30
      else
        if t39 = 1 then
          if t39 = 0 then
            let t96 : Int32 := f30 5 (l4_30).toNatClampNeg
            let f97 : Nat → Nat → Int32 := upd2 f30 7 (upd (f30 7) l3_30.toNatClampNeg t96)
            let t98 : Int32 := l3_30 + 1
            let t100 : Int32 := l4_30 + 1
            gsY_X11_misfitOf_1_L30 NF v n30 t98 t100 v30 f97 w30 g30
          else
            let t88 : Int32 := f30 5 (l4_30).toNatClampNeg
            let t89 : Int32 := f30 8 (t88).toNatClampNeg
            let f90 : Nat → Nat → Int32 := upd2 f30 7 (upd (f30 7) l3_30.toNatClampNeg t89)
            let t91 : Int32 := l3_30 + 1
            let t93 : Int32 := l4_30 + 1
            gsY_X11_misfitOf_1_L30 NF v n30 t91 t93 v30 f90 w30 g30
        else
          if t39 = 2 then
            let t71 : Int32 := l3_30 - 1
            let t73 : Int32 := f30 7 (t71).toNatClampNeg
            if t73 = 0 then
              let r82 : Int32 := gsY_X11_truth_1 NF 1 v30 f30 w30 g30
              let f84 : Nat → Nat → Int32 := upd2 f30 7 (upd (f30 7) t71.toNatClampNeg r82)
              let t85 : Int32 := l4_30 + 1
              gsY_X11_misfitOf_1_L30 NF v n30 l3_30 t85 v30 f84 w30 g30
            else
              let r76 : Int32 := gsY_X11_truth_1 NF 0 v30 f30 w30 g30
              let f78 : Nat → Nat → Int32 := upd2 f30 7 (upd (f30 7) t71.toNatClampNeg r76)
              let t79 : Int32 := l4_30 + 1
              gsY_X11_misfitOf_1_L30 NF v n30 l3_30 t79 v30 f78 w30 g30
          else
            let t59 : Int32 := l3_30 + (-1)
            let t61 : Int32 := t59 - 1
            let t63 : Int32 := f30 5 (l4_30).toNatClampNeg
            let t64 : Int32 := f30 7 (t61).toNatClampNeg
            let t65 : Int32 := f30 7 (t59).toNatClampNeg
            let r66 : Int32 := gsY_X11_done_1 NF t63 t64 t65 v30 f30 w30 g30
            let f68 : Nat → Nat → Int32 := upd2 f30 7 (upd (f30 7) t61.toNatClampNeg r66)
            let t69 : Int32 := l4_30 + 1
            gsY_X11_misfitOf_1_L30 NF v n30 t59 t69 v30 f68 w30 g30
def gsY_X11_misfitOf_1 (NF : Nat) (p1 : Int32) (p2 : Int32) (v : Nat → Int32) (f : Nat → Nat → Int32) (w : Int64) (g : Nat → Int64) : Int32 × (Nat → Int32) × (Nat → Nat → Int32) × (Int64) × (Nat → Int64) :=
  let t1 : Int32 := f 24 (p1).toNatClampNeg
  let t2 : Int32 := 18 + p2
  let t4 : Int32 := f 24 (t2).toNatClampNeg
  let r5 : Int32 := gsY_X11_over_1 NF t1 t4 v f w g
  let f7 : Nat → Nat → Int32 := upd2 f 8 (upd (f 8) (0 : Int32).toNatClampNeg r5)
  let t8 : Int32 := f7 24 (t2).toNatClampNeg
  let t9 : Int32 := f7 24 (p1).toNatClampNeg
  let r10 : Int32 := gsY_X11_over_1 NF t8 t9 v f7 w g
  let f12 : Nat → Nat → Int32 := upd2 f7 8 (upd (f7 8) (1 : Int32).toNatClampNeg r10)
  let t13 : Int32 := f12 16 (p1).toNatClampNeg
  let t14 : Int32 := 12 + p2
  let t15 : Int32 := f12 24 (t14).toNatClampNeg
  let r16 : Int32 := gsY_X11_over_1 NF t13 t15 v f12 w g
  let f18 : Nat → Nat → Int32 := upd2 f12 8 (upd (f12 8) (2 : Int32).toNatClampNeg r16)
  let t19 : Int32 := f18 24 (t14).toNatClampNeg
  let t20 : Int32 := f18 16 (p1).toNatClampNeg
  let r21 : Int32 := gsY_X11_over_1 NF t19 t20 v f18 w g
  let f23 : Nat → Nat → Int32 := upd2 f18 8 (upd (f18 8) (3 : Int32).toNatClampNeg r21)
  let t24 : Int32 := 30 + p2
  let t25 : Int32 := f23 24 (t24).toNatClampNeg
  let f26 : Nat → Nat → Int32 := upd2 f23 8 (upd (f23 8) (4 : Int32).toNatClampNeg t25)
  let t27 : Int32 := f26 24 (37 : Int32).toNatClampNeg
  let f28 : Nat → Nat → Int32 := upd2 f26 8 (upd (f26 8) (5 : Int32).toNatClampNeg t27)
  if (v 16) = 0 then
    let t103 : Int32 := f28 8 (0 : Int32).toNatClampNeg
    let t104 : Int32 := 3 * t103
    let t105 : Int32 := f28 8 (1 : Int32).toNatClampNeg
    let t106 : Int32 := t104 + t105
    let t107 : Int32 := f28 8 (2 : Int32).toNatClampNeg
    let t108 : Int32 := 2 * t107
    let t109 : Int32 := t106 + t108
    let t110 : Int32 := f28 8 (3 : Int32).toNatClampNeg
    let t111 : Int32 := t109 + t110
    let t112 : Int32 := f28 8 (4 : Int32).toNatClampNeg
    let t113 : Int32 := t111 + t112
    let r114 : Int32 := gsY_X11_within_1 NF t113 999 v f28 w g
    (r114, v, f28, w, g)
  else
    gsY_X11_misfitOf_1_L30 NF v (4294967296 + NF) 0 0 v f28 w g
theorem gsY_X11_misfitOf_1_q8 {NF : Nat} {p1 : Int32} {p2 : Int32} {v : Nat → Int32} {f : Nat → Nat → Int32} {w : Int64} {g : Nat → Int64} {t1 : Int32} {t2 : Int32} {t4 : Int32} {r5 : Int32} {f7 : Nat → Nat → Int32} {t8 : Int32} {t9 : Int32} {r10 : Int32} {f12 : Nat → Nat → Int32} {t13 : Int32} {t14 : Int32} {t15 : Int32} {r16 : Int32} {f18 : Nat → Nat → Int32} {t19 : Int32} {t20 : Int32} {r21 : Int32} {f23 : Nat → Nat → Int32} {t24 : Int32} {t25 : Int32} {f26 : Nat → Nat → Int32} {t27 : Int32} {f28 : Nat → Nat → Int32} (h0 : t1 = f 24 (p1).toNatClampNeg) (h1 : t2 = 18 + p2) (h2 : t4 = f 24 (t2).toNatClampNeg) (h3 : r5 = gsY_X11_over_1 NF t1 t4 v f w g) (h4 : f7 = upd2 f 8 (upd (f 8) (0 : Int32).toNatClampNeg r5)) (h5 : t8 = f7 24 (t2).toNatClampNeg) (h6 : t9 = f7 24 (p1).toNatClampNeg) (h7 : r10 = gsY_X11_over_1 NF t8 t9 v f7 w g) (h8 : f12 = upd2 f7 8 (upd (f7 8) (1 : Int32).toNatClampNeg r10)) (h9 : t13 = f12 16 (p1).toNatClampNeg) (h10 : t14 = 12 + p2) (h11 : t15 = f12 24 (t14).toNatClampNeg) (h12 : r16 = gsY_X11_over_1 NF t13 t15 v f12 w g) (h13 : f18 = upd2 f12 8 (upd (f12 8) (2 : Int32).toNatClampNeg r16)) (h14 : t19 = f18 24 (t14).toNatClampNeg) (h15 : t20 = f18 16 (p1).toNatClampNeg) (h16 : r21 = gsY_X11_over_1 NF t19 t20 v f18 w g) (h17 : f23 = upd2 f18 8 (upd (f18 8) (3 : Int32).toNatClampNeg r21)) (h18 : t24 = 30 + p2) (h19 : t25 = f23 24 (t24).toNatClampNeg) (h20 : f26 = upd2 f23 8 (upd (f23 8) (4 : Int32).toNatClampNeg t25)) (h21 : t27 = f26 24 (37 : Int32).toNatClampNeg) (h22 : f28 = upd2 f26 8 (upd (f26 8) (5 : Int32).toNatClampNeg t27)) (h23 : ¬ ((v 16) = 0)) : gsY_X11_misfitOf_1 NF p1 p2 v f w g = gsY_X11_misfitOf_1_L30 NF v (4294967296 + NF) 0 0 v f28 w g := by
  subst h0 h1 h2 h3 h4 h5 h6 h7 h8 h9 h10 h11 h12 h13 h14 h15 h16 h17 h18 h19 h20 h21 h22
  simp only [gsY_X11_misfitOf_1, if_neg h23]
theorem gsY_X11_misfitOf_1_q9 {NF : Nat} {p1 : Int32} {p2 : Int32} {v : Nat → Int32} {f : Nat → Nat → Int32} {w : Int64} {g : Nat → Int64} {t1 : Int32} {t2 : Int32} {t4 : Int32} {r5 : Int32} {f7 : Nat → Nat → Int32} {t8 : Int32} {t9 : Int32} {r10 : Int32} {f12 : Nat → Nat → Int32} {t13 : Int32} {t14 : Int32} {t15 : Int32} {r16 : Int32} {f18 : Nat → Nat → Int32} {t19 : Int32} {t20 : Int32} {r21 : Int32} {f23 : Nat → Nat → Int32} {t24 : Int32} {t25 : Int32} {f26 : Nat → Nat → Int32} {t27 : Int32} {f28 : Nat → Nat → Int32} {t103 : Int32} {t104 : Int32} {t105 : Int32} {t106 : Int32} {t107 : Int32} {t108 : Int32} {t109 : Int32} {t110 : Int32} {t111 : Int32} {t112 : Int32} {t113 : Int32} {r114 : Int32} (h0 : t1 = f 24 (p1).toNatClampNeg) (h1 : t2 = 18 + p2) (h2 : t4 = f 24 (t2).toNatClampNeg) (h3 : r5 = gsY_X11_over_1 NF t1 t4 v f w g) (h4 : f7 = upd2 f 8 (upd (f 8) (0 : Int32).toNatClampNeg r5)) (h5 : t8 = f7 24 (t2).toNatClampNeg) (h6 : t9 = f7 24 (p1).toNatClampNeg) (h7 : r10 = gsY_X11_over_1 NF t8 t9 v f7 w g) (h8 : f12 = upd2 f7 8 (upd (f7 8) (1 : Int32).toNatClampNeg r10)) (h9 : t13 = f12 16 (p1).toNatClampNeg) (h10 : t14 = 12 + p2) (h11 : t15 = f12 24 (t14).toNatClampNeg) (h12 : r16 = gsY_X11_over_1 NF t13 t15 v f12 w g) (h13 : f18 = upd2 f12 8 (upd (f12 8) (2 : Int32).toNatClampNeg r16)) (h14 : t19 = f18 24 (t14).toNatClampNeg) (h15 : t20 = f18 16 (p1).toNatClampNeg) (h16 : r21 = gsY_X11_over_1 NF t19 t20 v f18 w g) (h17 : f23 = upd2 f18 8 (upd (f18 8) (3 : Int32).toNatClampNeg r21)) (h18 : t24 = 30 + p2) (h19 : t25 = f23 24 (t24).toNatClampNeg) (h20 : f26 = upd2 f23 8 (upd (f23 8) (4 : Int32).toNatClampNeg t25)) (h21 : t27 = f26 24 (37 : Int32).toNatClampNeg) (h22 : f28 = upd2 f26 8 (upd (f26 8) (5 : Int32).toNatClampNeg t27)) (h23 : ((v 16) = 0)) (h24 : t103 = f28 8 (0 : Int32).toNatClampNeg) (h25 : t104 = 3 * t103) (h26 : t105 = f28 8 (1 : Int32).toNatClampNeg) (h27 : t106 = t104 + t105) (h28 : t107 = f28 8 (2 : Int32).toNatClampNeg) (h29 : t108 = 2 * t107) (h30 : t109 = t106 + t108) (h31 : t110 = f28 8 (3 : Int32).toNatClampNeg) (h32 : t111 = t109 + t110) (h33 : t112 = f28 8 (4 : Int32).toNatClampNeg) (h34 : t113 = t111 + t112) (h35 : r114 = gsY_X11_within_1 NF t113 999 v f28 w g) : gsY_X11_misfitOf_1 NF p1 p2 v f w g = (r114, v, f28, w, g) := by
  subst h0 h1 h2 h3 h4 h5 h6 h7 h8 h9 h10 h11 h12 h13 h14 h15 h16 h17 h18 h19 h20 h21 h22 h24 h25 h26 h27 h28 h29 h30 h31 h32 h33 h34 h35
  simp only [gsY_X11_misfitOf_1, if_pos h23]
theorem gsY_X11_misfitOf_1_q0 {NF : Nat} {v : Nat → Int32} {n30 : Nat} {l3_30 : Int32} {l4_30 : Int32} {v30 : Nat → Int32} {f30 : Nat → Nat → Int32} {w30 : Int64} {g30 : Nat → Int64} {t34 : Int32} {r35 : Int32} (h0 : ((v 9) ≤ l4_30)) (h1 : t34 = f30 7 (0 : Int32).toNatClampNeg) (h2 : r35 = gsY_X11_within_1 NF t34 999 v30 f30 w30 g30) : gsY_X11_misfitOf_1_L30 NF v (n30 + 1) l3_30 l4_30 v30 f30 w30 g30 = (r35, v30, f30, w30, g30) := by
  subst h1 h2
  simp only [gsY_X11_misfitOf_1_L30, if_pos h0]
theorem gsY_X11_misfitOf_1_q1 {NF : Nat} {v : Nat → Int32} {n30 : Nat} {l3_30 : Int32} {l4_30 : Int32} {v30 : Nat → Int32} {f30 : Nat → Nat → Int32} {w30 : Int64} {g30 : Nat → Int64} {t39 : Int32} {t42 : Int32} {t43 : Int32} {f44 : Nat → Nat → Int32} {t45 : Int32} {t47 : Int32} (h0 : ¬ ((v 9) ≤ l4_30)) (h1 : t39 = f30 4 (l4_30).toNatClampNeg) (h2 : (t39 = 0)) (h3 : ¬ (t39 = 0)) (h4 : t42 = f30 5 (l4_30).toNatClampNeg) (h5 : t43 = f30 8 (t42).toNatClampNeg) (h6 : f44 = upd2 f30 7 (upd (f30 7) l3_30.toNatClampNeg t43)) (h7 : t45 = l3_30 + 1) (h8 : t47 = l4_30 + 1) : gsY_X11_misfitOf_1_L30 NF v (n30 + 1) l3_30 l4_30 v30 f30 w30 g30 = gsY_X11_misfitOf_1_L30 NF v n30 t45 t47 v30 f44 w30 g30 := by
  exact absurd h2 h3
theorem gsY_X11_misfitOf_1_q2 {NF : Nat} {v : Nat → Int32} {n30 : Nat} {l3_30 : Int32} {l4_30 : Int32} {v30 : Nat → Int32} {f30 : Nat → Nat → Int32} {w30 : Int64} {g30 : Nat → Int64} {t39 : Int32} {t50 : Int32} {f51 : Nat → Nat → Int32} {t52 : Int32} {t54 : Int32} (h0 : ¬ ((v 9) ≤ l4_30)) (h1 : t39 = f30 4 (l4_30).toNatClampNeg) (h2 : (t39 = 0)) (h3 : (t39 = 0)) (h4 : t50 = f30 5 (l4_30).toNatClampNeg) (h5 : f51 = upd2 f30 7 (upd (f30 7) l3_30.toNatClampNeg t50)) (h6 : t52 = l3_30 + 1) (h7 : t54 = l4_30 + 1) : gsY_X11_misfitOf_1_L30 NF v (n30 + 1) l3_30 l4_30 v30 f30 w30 g30 = gsY_X11_misfitOf_1_L30 NF v n30 t52 t54 v30 f51 w30 g30 := by
  subst h1 h4 h5 h6 h7
  simp only [gsY_X11_misfitOf_1_L30, if_neg h0, if_pos h2, if_pos h3]
theorem gsY_X11_misfitOf_1_q3 {NF : Nat} {v : Nat → Int32} {n30 : Nat} {l3_30 : Int32} {l4_30 : Int32} {v30 : Nat → Int32} {f30 : Nat → Nat → Int32} {w30 : Int64} {g30 : Nat → Int64} {t39 : Int32} {t59 : Int32} {t61 : Int32} {t63 : Int32} {t64 : Int32} {t65 : Int32} {r66 : Int32} {f68 : Nat → Nat → Int32} {t69 : Int32} (h0 : ¬ ((v 9) ≤ l4_30)) (h1 : t39 = f30 4 (l4_30).toNatClampNeg) (h2 : ¬ (t39 = 0)) (h3 : ¬ (t39 = 1)) (h4 : ¬ (t39 = 2)) (h5 : t59 = l3_30 + (-1)) (h6 : t61 = t59 - 1) (h7 : t63 = f30 5 (l4_30).toNatClampNeg) (h8 : t64 = f30 7 (t61).toNatClampNeg) (h9 : t65 = f30 7 (t59).toNatClampNeg) (h10 : r66 = gsY_X11_done_1 NF t63 t64 t65 v30 f30 w30 g30) (h11 : f68 = upd2 f30 7 (upd (f30 7) t61.toNatClampNeg r66)) (h12 : t69 = l4_30 + 1) : gsY_X11_misfitOf_1_L30 NF v (n30 + 1) l3_30 l4_30 v30 f30 w30 g30 = gsY_X11_misfitOf_1_L30 NF v n30 t59 t69 v30 f68 w30 g30 := by
  subst h1 h5 h6 h7 h8 h9 h10 h11 h12
  simp only [gsY_X11_misfitOf_1_L30, if_neg h0, if_neg h2, if_neg h3, if_neg h4]
theorem gsY_X11_misfitOf_1_q4 {NF : Nat} {v : Nat → Int32} {n30 : Nat} {l3_30 : Int32} {l4_30 : Int32} {v30 : Nat → Int32} {f30 : Nat → Nat → Int32} {w30 : Int64} {g30 : Nat → Int64} {t39 : Int32} {t71 : Int32} {t73 : Int32} {r76 : Int32} {f78 : Nat → Nat → Int32} {t79 : Int32} (h0 : ¬ ((v 9) ≤ l4_30)) (h1 : t39 = f30 4 (l4_30).toNatClampNeg) (h2 : ¬ (t39 = 0)) (h3 : ¬ (t39 = 1)) (h4 : (t39 = 2)) (h5 : t71 = l3_30 - 1) (h6 : t73 = f30 7 (t71).toNatClampNeg) (h7 : ¬ (t73 = 0)) (h8 : r76 = gsY_X11_truth_1 NF 0 v30 f30 w30 g30) (h9 : f78 = upd2 f30 7 (upd (f30 7) t71.toNatClampNeg r76)) (h10 : t79 = l4_30 + 1) : gsY_X11_misfitOf_1_L30 NF v (n30 + 1) l3_30 l4_30 v30 f30 w30 g30 = gsY_X11_misfitOf_1_L30 NF v n30 l3_30 t79 v30 f78 w30 g30 := by
  subst h1 h5 h6 h8 h9 h10
  simp only [gsY_X11_misfitOf_1_L30, if_neg h0, if_neg h2, if_neg h3, if_pos h4, if_neg h7]
theorem gsY_X11_misfitOf_1_q5 {NF : Nat} {v : Nat → Int32} {n30 : Nat} {l3_30 : Int32} {l4_30 : Int32} {v30 : Nat → Int32} {f30 : Nat → Nat → Int32} {w30 : Int64} {g30 : Nat → Int64} {t39 : Int32} {t71 : Int32} {t73 : Int32} {r82 : Int32} {f84 : Nat → Nat → Int32} {t85 : Int32} (h0 : ¬ ((v 9) ≤ l4_30)) (h1 : t39 = f30 4 (l4_30).toNatClampNeg) (h2 : ¬ (t39 = 0)) (h3 : ¬ (t39 = 1)) (h4 : (t39 = 2)) (h5 : t71 = l3_30 - 1) (h6 : t73 = f30 7 (t71).toNatClampNeg) (h7 : (t73 = 0)) (h8 : r82 = gsY_X11_truth_1 NF 1 v30 f30 w30 g30) (h9 : f84 = upd2 f30 7 (upd (f30 7) t71.toNatClampNeg r82)) (h10 : t85 = l4_30 + 1) : gsY_X11_misfitOf_1_L30 NF v (n30 + 1) l3_30 l4_30 v30 f30 w30 g30 = gsY_X11_misfitOf_1_L30 NF v n30 l3_30 t85 v30 f84 w30 g30 := by
  subst h1 h5 h6 h8 h9 h10
  simp only [gsY_X11_misfitOf_1_L30, if_neg h0, if_neg h2, if_neg h3, if_pos h4, if_pos h7]
theorem gsY_X11_misfitOf_1_q6 {NF : Nat} {v : Nat → Int32} {n30 : Nat} {l3_30 : Int32} {l4_30 : Int32} {v30 : Nat → Int32} {f30 : Nat → Nat → Int32} {w30 : Int64} {g30 : Nat → Int64} {t39 : Int32} {t88 : Int32} {t89 : Int32} {f90 : Nat → Nat → Int32} {t91 : Int32} {t93 : Int32} (h0 : ¬ ((v 9) ≤ l4_30)) (h1 : t39 = f30 4 (l4_30).toNatClampNeg) (h2 : ¬ (t39 = 0)) (h3 : (t39 = 1)) (h4 : ¬ (t39 = 0)) (h5 : t88 = f30 5 (l4_30).toNatClampNeg) (h6 : t89 = f30 8 (t88).toNatClampNeg) (h7 : f90 = upd2 f30 7 (upd (f30 7) l3_30.toNatClampNeg t89)) (h8 : t91 = l3_30 + 1) (h9 : t93 = l4_30 + 1) : gsY_X11_misfitOf_1_L30 NF v (n30 + 1) l3_30 l4_30 v30 f30 w30 g30 = gsY_X11_misfitOf_1_L30 NF v n30 t91 t93 v30 f90 w30 g30 := by
  subst h1 h5 h6 h7 h8 h9
  simp only [gsY_X11_misfitOf_1_L30, if_neg h0, if_neg h2, if_pos h3, if_neg h4]
theorem gsY_X11_misfitOf_1_q7 {NF : Nat} {v : Nat → Int32} {n30 : Nat} {l3_30 : Int32} {l4_30 : Int32} {v30 : Nat → Int32} {f30 : Nat → Nat → Int32} {w30 : Int64} {g30 : Nat → Int64} {t39 : Int32} {t96 : Int32} {f97 : Nat → Nat → Int32} {t98 : Int32} {t100 : Int32} (h0 : ¬ ((v 9) ≤ l4_30)) (h1 : t39 = f30 4 (l4_30).toNatClampNeg) (h2 : ¬ (t39 = 0)) (h3 : (t39 = 1)) (h4 : (t39 = 0)) (h5 : t96 = f30 5 (l4_30).toNatClampNeg) (h6 : f97 = upd2 f30 7 (upd (f30 7) l3_30.toNatClampNeg t96)) (h7 : t98 = l3_30 + 1) (h8 : t100 = l4_30 + 1) : gsY_X11_misfitOf_1_L30 NF v (n30 + 1) l3_30 l4_30 v30 f30 w30 g30 = gsY_X11_misfitOf_1_L30 NF v n30 t98 t100 v30 f97 w30 g30 := by
  exact absurd h4 h2
def gsY_X11_misfit_1 (NF : Nat) (p1 : Int32) (p2 : Int32) (v : Nat → Int32) (f : Nat → Nat → Int32) (w : Int64) (g : Nat → Int64) : Int32 × (Nat → Int32) × (Nat → Nat → Int32) × (Int64) × (Nat → Int64) :=
  match gsY_X11_fill_1 NF v f w g with
  | (v2, f3, w4, g5) =>
    if gsY_X11_isMan_1 NF p1 v2 f3 w4 g5 = 1 then
      if gsY_X11_isCoat_1 NF p2 v2 f3 w4 g5 = 1 then
        match gsY_X11_misfitOf_1 NF p1 p2 v2 f3 w4 g5 with
        | (r12, v14, f15, w16, g17) =>
          (r12, v14, f15, w16, g17)
      else
        ((-1), v2, f3, w4, g5)
    else
      ((-1), v2, f3, w4, g5)
theorem gsY_X11_misfit_1_q0 {NF : Nat} {p1 : Int32} {p2 : Int32} {v : Nat → Int32} {f : Nat → Nat → Int32} {w : Int64} {g : Nat → Int64} {v2 : Nat → Int32} {f3 : Nat → Nat → Int32} {w4 : Int64} {g5 : Nat → Int64} {r12 : Int32} {v14 : Nat → Int32} {f15 : Nat → Nat → Int32} {w16 : Int64} {g17 : Nat → Int64} (h0 : gsY_X11_fill_1 NF v f w g = (v2, f3, w4, g5)) (h1 : gsY_X11_isMan_1 NF p1 v2 f3 w4 g5 = 1) (h2 : gsY_X11_isCoat_1 NF p2 v2 f3 w4 g5 = 1) (h3 : gsY_X11_misfitOf_1 NF p1 p2 v2 f3 w4 g5 = (r12, v14, f15, w16, g17)) : gsY_X11_misfit_1 NF p1 p2 v f w g = (r12, v14, f15, w16, g17) := by
  simp only [gsY_X11_misfit_1, h0, h1, h2, h3, ite11, ite01, if_true, if_false]
theorem gsY_X11_misfit_1_q1 {NF : Nat} {p1 : Int32} {p2 : Int32} {v : Nat → Int32} {f : Nat → Nat → Int32} {w : Int64} {g : Nat → Int64} {v2 : Nat → Int32} {f3 : Nat → Nat → Int32} {w4 : Int64} {g5 : Nat → Int64} (h0 : gsY_X11_fill_1 NF v f w g = (v2, f3, w4, g5)) (h1 : gsY_X11_isMan_1 NF p1 v2 f3 w4 g5 = 1) (h2 : gsY_X11_isCoat_1 NF p2 v2 f3 w4 g5 = 0) : gsY_X11_misfit_1 NF p1 p2 v f w g = ((-1), v2, f3, w4, g5) := by
  simp only [gsY_X11_misfit_1, h0, h1, h2, ite11, ite01, if_true, if_false]
theorem gsY_X11_misfit_1_q2 {NF : Nat} {p1 : Int32} {p2 : Int32} {v : Nat → Int32} {f : Nat → Nat → Int32} {w : Int64} {g : Nat → Int64} {v2 : Nat → Int32} {f3 : Nat → Nat → Int32} {w4 : Int64} {g5 : Nat → Int64} (h0 : gsY_X11_fill_1 NF v f w g = (v2, f3, w4, g5)) (h1 : gsY_X11_isMan_1 NF p1 v2 f3 w4 g5 = 0) : gsY_X11_misfit_1 NF p1 p2 v f w g = ((-1), v2, f3, w4, g5) := by
  simp only [gsY_X11_misfit_1, h0, h1, ite11, ite01, if_true, if_false]
def gsY_X11_act_1_L2 (NF : Nat) (v : Nat → Int32) : Nat → (Int32) → (Nat → Int32) → (Nat → Nat → Int32) → (Int64) → (Nat → Int64) → (Nat → Int32) × (Nat → Nat → Int32) × (Int64) × (Nat → Int64)
  | 0, _, _, _, _, _ => ((fun _ => 0), (fun _ _ => 0), 0, (fun _ => 0))
  | n2 + 1, l1_2, v2, f2, w2, g2 =>
    if 39 ≤ l1_2 then
      let t4 : Int32 := (v 35) + 1
      match gsY_X11_fill_1 NF (upd (upd v2 35 t4) 36 0) f2 w2 g2 with
      | (v7, f8, w9, g10) =>
        (v7, f8, w9, g10)
    else
      let t11 : Int32 := 39 * (v 35)
      let t13 : Int32 := t11 + l1_2
      let t16 : Int32 := f2 23 (l1_2).toNatClampNeg
      let f17 : Nat → Nat → Int32 := upd2 f2 25 (upd (f2 25) t13.toNatClampNeg t16)
      let t18 : Int32 := l1_2 + 1
      gsY_X11_act_1_L2 NF v n2 t18 v2 f17 w2 g2
def gsY_X11_act_1_L24 (NF : Nat) (t22 : Int32) : Nat → (Int32) → (Nat → Int32) → (Nat → Nat → Int32) → (Int64) → (Nat → Int64) → (Nat → Int32) × (Nat → Nat → Int32) × (Int64) × (Nat → Int64)
  | 0, _, _, _, _, _ => ((fun _ => 0), (fun _ _ => 0), 0, (fun _ => 0))
  | n24 + 1, l1_24, v24, f24, w24, g24 =>
    if 39 ≤ l1_24 then
      let t26 : Int32 := t22 + 1
      match gsY_X11_fill_1 NF (upd (upd v24 35 t26) 36 0) f24 w24 g24 with
      | (v29, f30, w31, g32) =>
        (v29, f30, w31, g32)
    else
      let t33 : Int32 := 39 * t22
      let t35 : Int32 := t33 + l1_24
      let t38 : Int32 := f24 23 (l1_24).toNatClampNeg
      let f39 : Nat → Nat → Int32 := upd2 f24 25 (upd (f24 25) t35.toNatClampNeg t38)
      let t40 : Int32 := l1_24 + 1
      gsY_X11_act_1_L24 NF t22 n24 t40 v24 f39 w24 g24
def gsY_X11_act_1_L20 (NF : Nat) (v : Nat → Int32) : Nat → (Int32) → (Nat → Int32) → (Nat → Nat → Int32) → (Int64) → (Nat → Int64) → (Nat → Int32) × (Nat → Nat → Int32) × (Int64) × (Nat → Int64)
  | 0, _, _, _, _, _ => ((fun _ => 0), (fun _ _ => 0), 0, (fun _ => 0))
  | n20 + 1, l1_20, v20, f20, w20, g20 =>
    if 1521 ≤ l1_20 then
      let t22 : Int32 := (v 35) - 1
      gsY_X11_act_1_L24 NF t22 (4294967296 + NF) 0 (upd v20 35 t22) f20 w20 g20
    else
      let t42 : Int32 := 39 + l1_20
      let t44 : Int32 := f20 25 (t42).toNatClampNeg
      let f45 : Nat → Nat → Int32 := upd2 f20 25 (upd (f20 25) l1_20.toNatClampNeg t44)
      let t46 : Int32 := l1_20 + 1
      gsY_X11_act_1_L20 NF v n20 t46 v20 f45 w20 g20
def gsY_X11_act_1 (NF : Nat) (v : Nat → Int32) (f : Nat → Nat → Int32) (w : Int64) (g : Nat → Int64) : (Nat → Int32) × (Nat → Nat → Int32) × (Int64) × (Nat → Int64) :=
  if (v 35) = 40 then
    gsY_X11_act_1_L20 NF v (4294967296 + NF) 0 v f w g
  else
    gsY_X11_act_1_L2 NF v (4294967296 + NF) 0 v f w g
theorem gsY_X11_act_1_q2 {NF : Nat} {v : Nat → Int32} {f : Nat → Nat → Int32} {w : Int64} {g : Nat → Int64} (h0 : ¬ ((v 35) = 40)) : gsY_X11_act_1 NF v f w g = gsY_X11_act_1_L2 NF v (4294967296 + NF) 0 v f w g := by
  simp only [gsY_X11_act_1, if_neg h0]
theorem gsY_X11_act_1_q7 {NF : Nat} {v : Nat → Int32} {f : Nat → Nat → Int32} {w : Int64} {g : Nat → Int64} (h0 : ((v 35) = 40)) : gsY_X11_act_1 NF v f w g = gsY_X11_act_1_L20 NF v (4294967296 + NF) 0 v f w g := by
  simp only [gsY_X11_act_1, if_pos h0]
theorem gsY_X11_act_1_q0 {NF : Nat} {v : Nat → Int32} {n2 : Nat} {l1_2 : Int32} {v2 : Nat → Int32} {f2 : Nat → Nat → Int32} {w2 : Int64} {g2 : Nat → Int64} {t4 : Int32} {v7 : Nat → Int32} {f8 : Nat → Nat → Int32} {w9 : Int64} {g10 : Nat → Int64} (h0 : (39 ≤ l1_2)) (h1 : t4 = (v 35) + 1) (h2 : gsY_X11_fill_1 NF (upd (upd v2 35 t4) 36 0) f2 w2 g2 = (v7, f8, w9, g10)) : gsY_X11_act_1_L2 NF v (n2 + 1) l1_2 v2 f2 w2 g2 = (v7, f8, w9, g10) := by
  subst h1
  simp only [gsY_X11_act_1_L2, if_pos h0, h2]
theorem gsY_X11_act_1_q1 {NF : Nat} {v : Nat → Int32} {n2 : Nat} {l1_2 : Int32} {v2 : Nat → Int32} {f2 : Nat → Nat → Int32} {w2 : Int64} {g2 : Nat → Int64} {t11 : Int32} {t13 : Int32} {t16 : Int32} {f17 : Nat → Nat → Int32} {t18 : Int32} (h0 : ¬ (39 ≤ l1_2)) (h1 : t11 = 39 * (v 35)) (h2 : t13 = t11 + l1_2) (h3 : t16 = f2 23 (l1_2).toNatClampNeg) (h4 : f17 = upd2 f2 25 (upd (f2 25) t13.toNatClampNeg t16)) (h5 : t18 = l1_2 + 1) : gsY_X11_act_1_L2 NF v (n2 + 1) l1_2 v2 f2 w2 g2 = gsY_X11_act_1_L2 NF v n2 t18 v2 f17 w2 g2 := by
  subst h1 h2 h3 h4 h5
  simp only [gsY_X11_act_1_L2, if_neg h0]
theorem gsY_X11_act_1_q5 {NF : Nat} {v : Nat → Int32} {n20 : Nat} {l1_20 : Int32} {v20 : Nat → Int32} {f20 : Nat → Nat → Int32} {w20 : Int64} {g20 : Nat → Int64} {t22 : Int32} (h0 : (1521 ≤ l1_20)) (h1 : t22 = (v 35) - 1) : gsY_X11_act_1_L20 NF v (n20 + 1) l1_20 v20 f20 w20 g20 = gsY_X11_act_1_L24 NF t22 (4294967296 + NF) 0 (upd v20 35 t22) f20 w20 g20 := by
  subst h1
  simp only [gsY_X11_act_1_L20, if_pos h0]
theorem gsY_X11_act_1_q6 {NF : Nat} {v : Nat → Int32} {n20 : Nat} {l1_20 : Int32} {v20 : Nat → Int32} {f20 : Nat → Nat → Int32} {w20 : Int64} {g20 : Nat → Int64} {t42 : Int32} {t44 : Int32} {f45 : Nat → Nat → Int32} {t46 : Int32} (h0 : ¬ (1521 ≤ l1_20)) (h1 : t42 = 39 + l1_20) (h2 : t44 = f20 25 (t42).toNatClampNeg) (h3 : f45 = upd2 f20 25 (upd (f20 25) l1_20.toNatClampNeg t44)) (h4 : t46 = l1_20 + 1) : gsY_X11_act_1_L20 NF v (n20 + 1) l1_20 v20 f20 w20 g20 = gsY_X11_act_1_L20 NF v n20 t46 v20 f45 w20 g20 := by
  subst h1 h2 h3 h4
  simp only [gsY_X11_act_1_L20, if_neg h0]
theorem gsY_X11_act_1_q3 {NF : Nat} {t22 : Int32} {n24 : Nat} {l1_24 : Int32} {v24 : Nat → Int32} {f24 : Nat → Nat → Int32} {w24 : Int64} {g24 : Nat → Int64} {t26 : Int32} {v29 : Nat → Int32} {f30 : Nat → Nat → Int32} {w31 : Int64} {g32 : Nat → Int64} (h0 : (39 ≤ l1_24)) (h1 : t26 = t22 + 1) (h2 : gsY_X11_fill_1 NF (upd (upd v24 35 t26) 36 0) f24 w24 g24 = (v29, f30, w31, g32)) : gsY_X11_act_1_L24 NF t22 (n24 + 1) l1_24 v24 f24 w24 g24 = (v29, f30, w31, g32) := by
  subst h1
  simp only [gsY_X11_act_1_L24, if_pos h0, h2]
theorem gsY_X11_act_1_q4 {NF : Nat} {t22 : Int32} {n24 : Nat} {l1_24 : Int32} {v24 : Nat → Int32} {f24 : Nat → Nat → Int32} {w24 : Int64} {g24 : Nat → Int64} {t33 : Int32} {t35 : Int32} {t38 : Int32} {f39 : Nat → Nat → Int32} {t40 : Int32} (h0 : ¬ (39 ≤ l1_24)) (h1 : t33 = 39 * t22) (h2 : t35 = t33 + l1_24) (h3 : t38 = f24 23 (l1_24).toNatClampNeg) (h4 : f39 = upd2 f24 25 (upd (f24 25) t35.toNatClampNeg t38)) (h5 : t40 = l1_24 + 1) : gsY_X11_act_1_L24 NF t22 (n24 + 1) l1_24 v24 f24 w24 g24 = gsY_X11_act_1_L24 NF t22 n24 t40 v24 f39 w24 g24 := by
  subst h1 h2 h3 h4 h5
  simp only [gsY_X11_act_1_L24, if_neg h0]
def gsY_X11_drawRain_1 (NF : Nat) (v : Nat → Int32) (f : Nat → Nat → Int32) (w : Int64) (g : Nat → Int64) : Int32 × (Nat → Int32) × (Nat → Nat → Int32) × (Int64) × (Nat → Int64) :=
  let t1 : Int32 := f 24 (38 : Int32).toNatClampNeg
  let t2 : Int32 := t1 * 137
  let t3 : Int32 := t2 + 71
  let t4 : Int32 := t3 - t3 / 1000 * 1000
  let f5 : Nat → Nat → Int32 := upd2 f 24 (upd (f 24) (38 : Int32).toNatClampNeg t4)
  let t6 : Int32 := f5 24 (38 : Int32).toNatClampNeg
  let t7 : Int32 := t6 - t6 / 100 * 100
  if (v 29) ≤ t7 then
    (0, v, f5, w, g)
  else
    (1, v, f5, w, g)
theorem gsY_X11_drawRain_1_q0 {NF : Nat} {v : Nat → Int32} {f : Nat → Nat → Int32} {w : Int64} {g : Nat → Int64} {t1 : Int32} {t2 : Int32} {t3 : Int32} {t4 : Int32} {f5 : Nat → Nat → Int32} {t6 : Int32} {t7 : Int32} (h0 : t1 = f 24 (38 : Int32).toNatClampNeg) (h1 : t2 = t1 * 137) (h2 : t3 = t2 + 71) (h3 : t4 = t3 - t3 / 1000 * 1000) (h4 : f5 = upd2 f 24 (upd (f 24) (38 : Int32).toNatClampNeg t4)) (h5 : t6 = f5 24 (38 : Int32).toNatClampNeg) (h6 : t7 = t6 - t6 / 100 * 100) (h7 : ((v 29) ≤ t7)) : gsY_X11_drawRain_1 NF v f w g = (0, v, f5, w, g) := by
  subst h0 h1 h2 h3 h4 h5 h6
  simp only [gsY_X11_drawRain_1, if_pos h7]
theorem gsY_X11_drawRain_1_q1 {NF : Nat} {v : Nat → Int32} {f : Nat → Nat → Int32} {w : Int64} {g : Nat → Int64} {t1 : Int32} {t2 : Int32} {t3 : Int32} {t4 : Int32} {f5 : Nat → Nat → Int32} {t6 : Int32} {t7 : Int32} (h0 : t1 = f 24 (38 : Int32).toNatClampNeg) (h1 : t2 = t1 * 137) (h2 : t3 = t2 + 71) (h3 : t4 = t3 - t3 / 1000 * 1000) (h4 : f5 = upd2 f 24 (upd (f 24) (38 : Int32).toNatClampNeg t4)) (h5 : t6 = f5 24 (38 : Int32).toNatClampNeg) (h6 : t7 = t6 - t6 / 100 * 100) (h7 : ¬ ((v 29) ≤ t7)) : gsY_X11_drawRain_1 NF v f w g = (1, v, f5, w, g) := by
  subst h0 h1 h2 h3 h4 h5 h6
  simp only [gsY_X11_drawRain_1, if_neg h7]
def gsY_X11_wearers_1_L1 (NF : Nat) (v : Nat → Int32) (f : Nat → Nat → Int32) (w : Int64) (g : Nat → Int64) : Nat → (Int32) → (Int32) → Int32
  | 0, _, _ => 0
  | n1 + 1, l1_1, l2_1 =>
    if (v 24) ≤ l2_1 then
      l1_1
    else
      let t7 : Int32 := 6 + l2_1
      let t8 : Int32 := f 24 (t7).toNatClampNeg
      if t8 < 0 then
        let r11 : Int32 := gsY_X11_truth_1 NF 0 v f w g
        let t13 : Int32 := r11 <<< (l2_1 &&& 31)
        let t14 : Int32 := l1_1 ||| t13
        let t15 : Int32 := l2_1 + 1
        gsY_X11_wearers_1_L1 NF v f w g n1 t14 t15
      else
        let r19 : Int32 := gsY_X11_truth_1 NF 1 v f w g
        let t21 : Int32 := r19 <<< (l2_1 &&& 31)
        let t22 : Int32 := l1_1 ||| t21
        let t23 : Int32 := l2_1 + 1
        gsY_X11_wearers_1_L1 NF v f w g n1 t22 t23
def gsY_X11_wearers_1 (NF : Nat) (v : Nat → Int32) (f : Nat → Nat → Int32) (w : Int64) (g : Nat → Int64) : Int32 :=
  gsY_X11_wearers_1_L1 NF v f w g (4294967296 + NF) 0 0
theorem gsY_X11_wearers_1_q3 {NF : Nat} {v : Nat → Int32} {f : Nat → Nat → Int32} {w : Int64} {g : Nat → Int64}  : gsY_X11_wearers_1 NF v f w g = gsY_X11_wearers_1_L1 NF v f w g (4294967296 + NF) 0 0 := by
  simp only [gsY_X11_wearers_1]
theorem gsY_X11_wearers_1_q0 {NF : Nat} {v : Nat → Int32} {f : Nat → Nat → Int32} {w : Int64} {g : Nat → Int64} {n1 : Nat} {l1_1 : Int32} {l2_1 : Int32} (h0 : ((v 24) ≤ l2_1)) : gsY_X11_wearers_1_L1 NF v f w g (n1 + 1) l1_1 l2_1 = l1_1 := by
  simp only [gsY_X11_wearers_1_L1, if_pos h0]
theorem gsY_X11_wearers_1_q1 {NF : Nat} {v : Nat → Int32} {f : Nat → Nat → Int32} {w : Int64} {g : Nat → Int64} {n1 : Nat} {l1_1 : Int32} {l2_1 : Int32} {t7 : Int32} {t8 : Int32} {r11 : Int32} {t13 : Int32} {t14 : Int32} {t15 : Int32} (h0 : ¬ ((v 24) ≤ l2_1)) (h1 : t7 = 6 + l2_1) (h2 : t8 = f 24 (t7).toNatClampNeg) (h3 : (t8 < 0)) (h4 : r11 = gsY_X11_truth_1 NF 0 v f w g) (h5 : t13 = r11 <<< (l2_1 &&& 31)) (h6 : t14 = l1_1 ||| t13) (h7 : t15 = l2_1 + 1) : gsY_X11_wearers_1_L1 NF v f w g (n1 + 1) l1_1 l2_1 = gsY_X11_wearers_1_L1 NF v f w g n1 t14 t15 := by
  subst h1 h2 h4 h5 h6 h7
  simp only [gsY_X11_wearers_1_L1, if_neg h0, if_pos h3]
theorem gsY_X11_wearers_1_q2 {NF : Nat} {v : Nat → Int32} {f : Nat → Nat → Int32} {w : Int64} {g : Nat → Int64} {n1 : Nat} {l1_1 : Int32} {l2_1 : Int32} {t7 : Int32} {t8 : Int32} {r19 : Int32} {t21 : Int32} {t22 : Int32} {t23 : Int32} (h0 : ¬ ((v 24) ≤ l2_1)) (h1 : t7 = 6 + l2_1) (h2 : t8 = f 24 (t7).toNatClampNeg) (h3 : ¬ (t8 < 0)) (h4 : r19 = gsY_X11_truth_1 NF 1 v f w g) (h5 : t21 = r19 <<< (l2_1 &&& 31)) (h6 : t22 = l1_1 ||| t21) (h7 : t23 = l2_1 + 1) : gsY_X11_wearers_1_L1 NF v f w g (n1 + 1) l1_1 l2_1 = gsY_X11_wearers_1_L1 NF v f w g n1 t22 t23 := by
  subst h1 h2 h4 h5 h6 h7
  simp only [gsY_X11_wearers_1_L1, if_neg h0, if_neg h3]
def gsY_X11_fits_1 (NF : Nat) (p1 : Int32) (p2 : Int32) (v : Nat → Int32) (f : Nat → Nat → Int32) (w : Int64) (g : Nat → Int64) : Int32 × (Nat → Int32) × (Nat → Nat → Int32) × (Int64) × (Nat → Int64) :=
  if p2 < 0 then
    (0, v, f, w, g)
  else
    match gsY_X11_misfitOf_1 NF p1 p2 v f w g with
    | (r2, v4, f5, w6, g7) =>
      if (v4 26) < r2 then
        (0, v4, f5, w6, g7)
      else
        (1, v4, f5, w6, g7)
theorem gsY_X11_fits_1_q0 {NF : Nat} {p1 : Int32} {p2 : Int32} {v : Nat → Int32} {f : Nat → Nat → Int32} {w : Int64} {g : Nat → Int64} (h0 : (p2 < 0)) : gsY_X11_fits_1 NF p1 p2 v f w g = (0, v, f, w, g) := by
  simp only [gsY_X11_fits_1, if_pos h0]
theorem gsY_X11_fits_1_q1 {NF : Nat} {p1 : Int32} {p2 : Int32} {v : Nat → Int32} {f : Nat → Nat → Int32} {w : Int64} {g : Nat → Int64} {r2 : Int32} {v4 : Nat → Int32} {f5 : Nat → Nat → Int32} {w6 : Int64} {g7 : Nat → Int64} (h0 : ¬ (p2 < 0)) (h1 : gsY_X11_misfitOf_1 NF p1 p2 v f w g = (r2, v4, f5, w6, g7)) (h2 : ((v4 26) < r2)) : gsY_X11_fits_1 NF p1 p2 v f w g = (0, v4, f5, w6, g7) := by
  simp only [gsY_X11_fits_1, if_neg h0, h1, if_pos h2]
theorem gsY_X11_fits_1_q2 {NF : Nat} {p1 : Int32} {p2 : Int32} {v : Nat → Int32} {f : Nat → Nat → Int32} {w : Int64} {g : Nat → Int64} {r2 : Int32} {v4 : Nat → Int32} {f5 : Nat → Nat → Int32} {w6 : Int64} {g7 : Nat → Int64} (h0 : ¬ (p2 < 0)) (h1 : gsY_X11_misfitOf_1 NF p1 p2 v f w g = (r2, v4, f5, w6, g7)) (h2 : ¬ ((v4 26) < r2)) : gsY_X11_fits_1 NF p1 p2 v f w g = (1, v4, f5, w6, g7) := by
  simp only [gsY_X11_fits_1, if_neg h0, h1, if_neg h2]
def gsY_X11_fitsOwn_1 (NF : Nat) (p1 : Int32) (v : Nat → Int32) (f : Nat → Nat → Int32) (w : Int64) (g : Nat → Int64) : Int32 × (Nat → Int32) × (Nat → Nat → Int32) × (Int64) × (Nat → Int64) :=
  let t1 : Int32 := 6 + p1
  let t3 : Int32 := f 24 (t1).toNatClampNeg
  match gsY_X11_fits_1 NF p1 t3 v f w g with
  | (r4, v6, f7, w8, g9) =>
    if r4 = 1 then
      (1, v6, f7, w8, g9)
    else
      (0, v6, f7, w8, g9)
theorem gsY_X11_fitsOwn_1_q0 {NF : Nat} {p1 : Int32} {v : Nat → Int32} {f : Nat → Nat → Int32} {w : Int64} {g : Nat → Int64} {t1 : Int32} {t3 : Int32} {v6 : Nat → Int32} {f7 : Nat → Nat → Int32} {w8 : Int64} {g9 : Nat → Int64} (h0 : t1 = 6 + p1) (h1 : t3 = f 24 (t1).toNatClampNeg) (h2 : gsY_X11_fits_1 NF p1 t3 v f w g = (1, v6, f7, w8, g9)) : gsY_X11_fitsOwn_1 NF p1 v f w g = (1, v6, f7, w8, g9) := by
  subst h0 h1
  simp only [gsY_X11_fitsOwn_1, h2, ite11, ite01, if_true, if_false]
theorem gsY_X11_fitsOwn_1_q1 {NF : Nat} {p1 : Int32} {v : Nat → Int32} {f : Nat → Nat → Int32} {w : Int64} {g : Nat → Int64} {t1 : Int32} {t3 : Int32} {v6 : Nat → Int32} {f7 : Nat → Nat → Int32} {w8 : Int64} {g9 : Nat → Int64} (h0 : t1 = 6 + p1) (h1 : t3 = f 24 (t1).toNatClampNeg) (h2 : gsY_X11_fits_1 NF p1 t3 v f w g = (0, v6, f7, w8, g9)) : gsY_X11_fitsOwn_1 NF p1 v f w g = (0, v6, f7, w8, g9) := by
  subst h0 h1
  simp only [gsY_X11_fitsOwn_1, h2, ite11, ite01, if_true, if_false]
def gsY_X11_fittedOnes_1_L1 (NF : Nat) (v : Nat → Int32) : Nat → (Int32) → (Int32) → (Nat → Int32) → (Nat → Nat → Int32) → (Int64) → (Nat → Int64) → Int32 × (Nat → Int32) × (Nat → Nat → Int32) × (Int64) × (Nat → Int64)
  | 0, _, _, _, _, _, _ => (0, (fun _ => 0), (fun _ _ => 0), 0, (fun _ => 0))
  | n1 + 1, l1_1, l2_1, v1, f1, w1, g1 =>
    if (v 24) ≤ l2_1 then
      (l1_1, v1, f1, w1, g1)
    else
      match gsY_X11_fitsOwn_1 NF l2_1 v1 f1 w1 g1 with
      | (r7, v9, f10, w11, g12) =>
        if r7 = 1 then
          let r15 : Int32 := gsY_X11_truth_1 NF 1 v9 f10 w11 g12
          let t17 : Int32 := r15 <<< (l2_1 &&& 31)
          let t18 : Int32 := l1_1 ||| t17
          let t19 : Int32 := l2_1 + 1
          gsY_X11_fittedOnes_1_L1 NF v n1 t18 t19 v9 f10 w11 g12
        else
          let r22 : Int32 := gsY_X11_truth_1 NF 0 v9 f10 w11 g12
          let t24 : Int32 := r22 <<< (l2_1 &&& 31)
          let t25 : Int32 := l1_1 ||| t24
          let t26 : Int32 := l2_1 + 1
          gsY_X11_fittedOnes_1_L1 NF v n1 t25 t26 v9 f10 w11 g12
def gsY_X11_fittedOnes_1 (NF : Nat) (v : Nat → Int32) (f : Nat → Nat → Int32) (w : Int64) (g : Nat → Int64) : Int32 × (Nat → Int32) × (Nat → Nat → Int32) × (Int64) × (Nat → Int64) :=
  gsY_X11_fittedOnes_1_L1 NF v (4294967296 + NF) 0 0 v f w g
theorem gsY_X11_fittedOnes_1_q3 {NF : Nat} {v : Nat → Int32} {f : Nat → Nat → Int32} {w : Int64} {g : Nat → Int64}  : gsY_X11_fittedOnes_1 NF v f w g = gsY_X11_fittedOnes_1_L1 NF v (4294967296 + NF) 0 0 v f w g := by
  simp only [gsY_X11_fittedOnes_1]
theorem gsY_X11_fittedOnes_1_q0 {NF : Nat} {v : Nat → Int32} {n1 : Nat} {l1_1 : Int32} {l2_1 : Int32} {v1 : Nat → Int32} {f1 : Nat → Nat → Int32} {w1 : Int64} {g1 : Nat → Int64} (h0 : ((v 24) ≤ l2_1)) : gsY_X11_fittedOnes_1_L1 NF v (n1 + 1) l1_1 l2_1 v1 f1 w1 g1 = (l1_1, v1, f1, w1, g1) := by
  simp only [gsY_X11_fittedOnes_1_L1, if_pos h0]
theorem gsY_X11_fittedOnes_1_q1 {NF : Nat} {v : Nat → Int32} {n1 : Nat} {l1_1 : Int32} {l2_1 : Int32} {v1 : Nat → Int32} {f1 : Nat → Nat → Int32} {w1 : Int64} {g1 : Nat → Int64} {v9 : Nat → Int32} {f10 : Nat → Nat → Int32} {w11 : Int64} {g12 : Nat → Int64} {r15 : Int32} {t17 : Int32} {t18 : Int32} {t19 : Int32} (h0 : ¬ ((v 24) ≤ l2_1)) (h1 : gsY_X11_fitsOwn_1 NF l2_1 v1 f1 w1 g1 = (1, v9, f10, w11, g12)) (h3 : r15 = gsY_X11_truth_1 NF 1 v9 f10 w11 g12) (h4 : t17 = r15 <<< (l2_1 &&& 31)) (h5 : t18 = l1_1 ||| t17) (h6 : t19 = l2_1 + 1) : gsY_X11_fittedOnes_1_L1 NF v (n1 + 1) l1_1 l2_1 v1 f1 w1 g1 = gsY_X11_fittedOnes_1_L1 NF v n1 t18 t19 v9 f10 w11 g12 := by
  subst h3 h4 h5 h6
  simp only [gsY_X11_fittedOnes_1_L1, if_neg h0, h1, ite11, ite01, if_true, if_false]
theorem gsY_X11_fittedOnes_1_q2 {NF : Nat} {v : Nat → Int32} {n1 : Nat} {l1_1 : Int32} {l2_1 : Int32} {v1 : Nat → Int32} {f1 : Nat → Nat → Int32} {w1 : Int64} {g1 : Nat → Int64} {v9 : Nat → Int32} {f10 : Nat → Nat → Int32} {w11 : Int64} {g12 : Nat → Int64} {r22 : Int32} {t24 : Int32} {t25 : Int32} {t26 : Int32} (h0 : ¬ ((v 24) ≤ l2_1)) (h1 : gsY_X11_fitsOwn_1 NF l2_1 v1 f1 w1 g1 = (0, v9, f10, w11, g12)) (h3 : r22 = gsY_X11_truth_1 NF 0 v9 f10 w11 g12) (h4 : t24 = r22 <<< (l2_1 &&& 31)) (h5 : t25 = l1_1 ||| t24) (h6 : t26 = l2_1 + 1) : gsY_X11_fittedOnes_1_L1 NF v (n1 + 1) l1_1 l2_1 v1 f1 w1 g1 = gsY_X11_fittedOnes_1_L1 NF v n1 t25 t26 v9 f10 w11 g12 := by
  subst h3 h4 h5 h6
  simp only [gsY_X11_fittedOnes_1_L1, if_neg h0, h1, ite11, ite01, if_true, if_false]
def gsY_X11_wearer_1_L1 (NF : Nat) (p1 : Int32) (v : Nat → Int32) (f : Nat → Nat → Int32) : Nat → (Int32) → (Int32) → Int32
  | 0, _, _ => 0
  | n1 + 1, l2_1, l3_1 =>
    if (v 24) ≤ l3_1 then
      l2_1
    else
      let t7 : Int32 := 6 + l3_1
      let t8 : Int32 := f 24 (t7).toNatClampNeg
      if t8 = p1 then
        let t16 : Int32 := l3_1 + 1
        gsY_X11_wearer_1_L1 NF p1 v f n1 l3_1 t16
      else
        let t12 : Int32 := l3_1 + 1
        gsY_X11_wearer_1_L1 NF p1 v f n1 l2_1 t12
def gsY_X11_wearer_1 (NF : Nat) (p1 : Int32) (v : Nat → Int32) (f : Nat → Nat → Int32) (w : Int64) (g : Nat → Int64) : Int32 :=
  gsY_X11_wearer_1_L1 NF p1 v f (4294967296 + NF) (-1) 0
theorem gsY_X11_wearer_1_q3 {NF : Nat} {p1 : Int32} {v : Nat → Int32} {f : Nat → Nat → Int32} {w : Int64} {g : Nat → Int64}  : gsY_X11_wearer_1 NF p1 v f w g = gsY_X11_wearer_1_L1 NF p1 v f (4294967296 + NF) (-1) 0 := by
  simp only [gsY_X11_wearer_1]
theorem gsY_X11_wearer_1_q0 {NF : Nat} {p1 : Int32} {v : Nat → Int32} {f : Nat → Nat → Int32} {n1 : Nat} {l2_1 : Int32} {l3_1 : Int32} (h0 : ((v 24) ≤ l3_1)) : gsY_X11_wearer_1_L1 NF p1 v f (n1 + 1) l2_1 l3_1 = l2_1 := by
  simp only [gsY_X11_wearer_1_L1, if_pos h0]
theorem gsY_X11_wearer_1_q1 {NF : Nat} {p1 : Int32} {v : Nat → Int32} {f : Nat → Nat → Int32} {n1 : Nat} {l2_1 : Int32} {l3_1 : Int32} {t7 : Int32} {t8 : Int32} {t12 : Int32} (h0 : ¬ ((v 24) ≤ l3_1)) (h1 : t7 = 6 + l3_1) (h2 : t8 = f 24 (t7).toNatClampNeg) (h3 : ¬ (t8 = p1)) (h4 : t12 = l3_1 + 1) : gsY_X11_wearer_1_L1 NF p1 v f (n1 + 1) l2_1 l3_1 = gsY_X11_wearer_1_L1 NF p1 v f n1 l2_1 t12 := by
  subst h1 h2 h4
  simp only [gsY_X11_wearer_1_L1, if_neg h0, if_neg h3]
theorem gsY_X11_wearer_1_q2 {NF : Nat} {p1 : Int32} {v : Nat → Int32} {f : Nat → Nat → Int32} {n1 : Nat} {l2_1 : Int32} {l3_1 : Int32} {t7 : Int32} {t8 : Int32} {t16 : Int32} (h0 : ¬ ((v 24) ≤ l3_1)) (h1 : t7 = 6 + l3_1) (h2 : t8 = f 24 (t7).toNatClampNeg) (h3 : (t8 = p1)) (h4 : t16 = l3_1 + 1) : gsY_X11_wearer_1_L1 NF p1 v f (n1 + 1) l2_1 l3_1 = gsY_X11_wearer_1_L1 NF p1 v f n1 l3_1 t16 := by
  subst h1 h2 h4
  simp only [gsY_X11_wearer_1_L1, if_neg h0, if_pos h3]
def gsY_X11_lesser_1 (NF : Nat) (p0 : Int32) (p1 : Int32) (v : Nat → Int32) (f : Nat → Nat → Int32) (w : Int64) (g : Nat → Int64) : Int32 :=
  if p1 ≤ p0 then
    p1
  else
    p0
theorem gsY_X11_lesser_1_q0 {NF : Nat} {p0 : Int32} {p1 : Int32} {v : Nat → Int32} {f : Nat → Nat → Int32} {w : Int64} {g : Nat → Int64} (h0 : (p1 ≤ p0)) : gsY_X11_lesser_1 NF p0 p1 v f w g = p1 := by
  simp only [gsY_X11_lesser_1, if_pos h0]
theorem gsY_X11_lesser_1_q1 {NF : Nat} {p0 : Int32} {p1 : Int32} {v : Nat → Int32} {f : Nat → Nat → Int32} {w : Int64} {g : Nat → Int64} (h0 : ¬ (p1 ≤ p0)) : gsY_X11_lesser_1 NF p0 p1 v f w g = p0 := by
  simp only [gsY_X11_lesser_1, if_neg h0]
def gsY_X11_greater_1 (NF : Nat) (p0 : Int32) (p1 : Int32) (v : Nat → Int32) (f : Nat → Nat → Int32) (w : Int64) (g : Nat → Int64) : Int32 :=
  if p0 ≤ p1 then
    p1
  else
    p0
theorem gsY_X11_greater_1_q0 {NF : Nat} {p0 : Int32} {p1 : Int32} {v : Nat → Int32} {f : Nat → Nat → Int32} {w : Int64} {g : Nat → Int64} (h0 : (p0 ≤ p1)) : gsY_X11_greater_1 NF p0 p1 v f w g = p1 := by
  simp only [gsY_X11_greater_1, if_pos h0]
theorem gsY_X11_greater_1_q1 {NF : Nat} {p0 : Int32} {p1 : Int32} {v : Nat → Int32} {f : Nat → Nat → Int32} {w : Int64} {g : Nat → Int64} (h0 : ¬ (p0 ≤ p1)) : gsY_X11_greater_1 NF p0 p1 v f w g = p0 := by
  simp only [gsY_X11_greater_1, if_neg h0]
def gsY_X11_goDay_1_L22 (NF : Nat) (v : Nat → Int32) (t21 : Int32) : Nat → (Int32) → (Nat → Int32) → (Nat → Nat → Int32) → (Int64) → (Nat → Int64) → Int32 × (Nat → Int32) × (Nat → Nat → Int32) × (Int64) × (Nat → Int64)
  | 0, _, _, _, _, _ => (0, (fun _ => 0), (fun _ _ => 0), 0, (fun _ => 0))
  | n22 + 1, l3_22, v22, f22, w22, g22 =>
    if (v 24) ≤ l3_22 then
      (t21, v22, f22, w22, g22)
    else
      let t26 : Int32 := t21 >>> (l3_22 &&& 31)
      let t27 : Int32 := t26 &&& 1
      if t27 = 1 then
        let t31 : Int32 := 6 + l3_22
        let f32 : Nat → Nat → Int32 := upd2 f22 24 (upd (f22 24) t31.toNatClampNeg (-1))
        let t33 : Int32 := l3_22 + 1
        gsY_X11_goDay_1_L22 NF v t21 n22 t33 v22 f32 w22 g22
      else
        let t29 : Int32 := l3_22 + 1
        gsY_X11_goDay_1_L22 NF v t21 n22 t29 v22 f22 w22 g22
def gsY_X11_goDay_1_L5 (NF : Nat) (p1 : Int32) (v : Nat → Int32) : Nat → (Int32) → (Nat → Int32) → (Nat → Nat → Int32) → (Int64) → (Nat → Int64) → Int32 × (Nat → Int32) × (Nat → Nat → Int32) × (Int64) × (Nat → Int64)
  | 0, _, _, _, _, _ => (0, (fun _ => 0), (fun _ _ => 0), 0, (fun _ => 0))
  | n5 + 1, l2_5, v5, f5, w5, g5 =>
    if (v 25) ≤ l2_5 then
      let t9 : Int32 := f5 24 (37 : Int32).toNatClampNeg
      let t10 : Int32 := t9 + 1
      let f11 : Nat → Nat → Int32 := upd2 f5 24 (upd (f5 24) (37 : Int32).toNatClampNeg t10)
      let r12 : Int32 := gsY_X11_wearers_1 NF v5 f11 w5 g5
      match gsY_X11_fittedOnes_1 NF v5 f11 w5 g5 with
      | (r14, v16, f17, w18, g19) =>
        let t20 : Int32 := r14 ^^^ (-1)
        let t21 : Int32 := r12 &&& t20
        gsY_X11_goDay_1_L22 NF v t21 (4294967296 + NF) 0 v16 f17 w18 g19
    else
      let r37 : Int32 := gsY_X11_wearer_1 NF l2_5 v5 f5 w5 g5
      if 0 ≤ r37 then
        let t40 : Int32 := 30 + l2_5
        let t41 : Int32 := f5 24 (t40).toNatClampNeg
        let t42 : Int32 := t41 + 1
        let r44 : Int32 := gsY_X11_lesser_1 NF 99 t42 v5 f5 w5 g5
        let f48 : Nat → Nat → Int32 := upd2 f5 24 (upd (f5 24) t40.toNatClampNeg r44)
        let t49 : Int32 := 12 + l2_5
        let t50 : Int32 := f48 24 (t49).toNatClampNeg
        let r51 : Int32 := gsY_X11_truth_1 NF p1 v5 f48 w5 g5
        let t53 : Int32 := t50 - r51
        let r54 : Int32 := gsY_X11_greater_1 NF 0 t53 v5 f48 w5 g5
        let f56 : Nat → Nat → Int32 := upd2 f48 24 (upd (f48 24) t49.toNatClampNeg r54)
        let t57 : Int32 := 18 + l2_5
        let t58 : Int32 := f56 24 (t57).toNatClampNeg
        let r59 : Int32 := gsY_X11_truth_1 NF p1 v5 f56 w5 g5
        let t61 : Int32 := t58 - r59
        let r62 : Int32 := gsY_X11_greater_1 NF 0 t61 v5 f56 w5 g5
        let f64 : Nat → Nat → Int32 := upd2 f56 24 (upd (f56 24) t57.toNatClampNeg r62)
        let t65 : Int32 := l2_5 + 1
        gsY_X11_goDay_1_L5 NF p1 v n5 t65 v5 f64 w5 g5
      else
        let t67 : Int32 := l2_5 + 1
        gsY_X11_goDay_1_L5 NF p1 v n5 t67 v5 f5 w5 g5
def gsY_X11_goDay_1_L1 (NF : Nat) (p1 : Int32) (v : Nat → Int32) : Nat → (Int32) → (Nat → Int32) → (Nat → Nat → Int32) → (Int64) → (Nat → Int64) → Int32 × (Nat → Int32) × (Nat → Nat → Int32) × (Int64) × (Nat → Int64)
  | 0, _, _, _, _, _ => (0, (fun _ => 0), (fun _ _ => 0), 0, (fun _ => 0))
  | n1 + 1, l2_1, v1, f1, w1, g1 =>
    if (v 24) ≤ l2_1 then
      gsY_X11_goDay_1_L5 NF p1 v (4294967296 + NF) 0 v1 f1 w1 g1
    else
      let t71 : Int32 := f1 24 (l2_1).toNatClampNeg
      let t72 : Int32 := f1 18 (l2_1).toNatClampNeg
      let t73 : Int32 := t71 + t72
      let r75 : Int32 := gsY_X11_lesser_1 NF 99 t73 v1 f1 w1 g1
      let f79 : Nat → Nat → Int32 := upd2 f1 24 (upd (f1 24) l2_1.toNatClampNeg r75)
      let t80 : Int32 := l2_1 + 1
      gsY_X11_goDay_1_L1 NF p1 v n1 t80 v1 f79 w1 g1
def gsY_X11_goDay_1 (NF : Nat) (p1 : Int32) (v : Nat → Int32) (f : Nat → Nat → Int32) (w : Int64) (g : Nat → Int64) : Int32 × (Nat → Int32) × (Nat → Nat → Int32) × (Int64) × (Nat → Int64) :=
  gsY_X11_goDay_1_L1 NF p1 v (4294967296 + NF) 0 v f w g
theorem gsY_X11_goDay_1_q8 {NF : Nat} {p1 : Int32} {v : Nat → Int32} {f : Nat → Nat → Int32} {w : Int64} {g : Nat → Int64}  : gsY_X11_goDay_1 NF p1 v f w g = gsY_X11_goDay_1_L1 NF p1 v (4294967296 + NF) 0 v f w g := by
  simp only [gsY_X11_goDay_1]
theorem gsY_X11_goDay_1_q6 {NF : Nat} {p1 : Int32} {v : Nat → Int32} {n1 : Nat} {l2_1 : Int32} {v1 : Nat → Int32} {f1 : Nat → Nat → Int32} {w1 : Int64} {g1 : Nat → Int64} (h0 : ((v 24) ≤ l2_1)) : gsY_X11_goDay_1_L1 NF p1 v (n1 + 1) l2_1 v1 f1 w1 g1 = gsY_X11_goDay_1_L5 NF p1 v (4294967296 + NF) 0 v1 f1 w1 g1 := by
  simp only [gsY_X11_goDay_1_L1, if_pos h0]
theorem gsY_X11_goDay_1_q7 {NF : Nat} {p1 : Int32} {v : Nat → Int32} {n1 : Nat} {l2_1 : Int32} {v1 : Nat → Int32} {f1 : Nat → Nat → Int32} {w1 : Int64} {g1 : Nat → Int64} {t71 : Int32} {t72 : Int32} {t73 : Int32} {r75 : Int32} {f79 : Nat → Nat → Int32} {t80 : Int32} (h0 : ¬ ((v 24) ≤ l2_1)) (h1 : t71 = f1 24 (l2_1).toNatClampNeg) (h2 : t72 = f1 18 (l2_1).toNatClampNeg) (h3 : t73 = t71 + t72) (h4 : r75 = gsY_X11_lesser_1 NF 99 t73 v1 f1 w1 g1) (h5 : f79 = upd2 f1 24 (upd (f1 24) l2_1.toNatClampNeg r75)) (h6 : t80 = l2_1 + 1) : gsY_X11_goDay_1_L1 NF p1 v (n1 + 1) l2_1 v1 f1 w1 g1 = gsY_X11_goDay_1_L1 NF p1 v n1 t80 v1 f79 w1 g1 := by
  subst h1 h2 h3 h4 h5 h6
  simp only [gsY_X11_goDay_1_L1, if_neg h0]
theorem gsY_X11_goDay_1_q3 {NF : Nat} {p1 : Int32} {v : Nat → Int32} {n5 : Nat} {l2_5 : Int32} {v5 : Nat → Int32} {f5 : Nat → Nat → Int32} {w5 : Int64} {g5 : Nat → Int64} {t9 : Int32} {t10 : Int32} {f11 : Nat → Nat → Int32} {r12 : Int32} {r14 : Int32} {v16 : Nat → Int32} {f17 : Nat → Nat → Int32} {w18 : Int64} {g19 : Nat → Int64} {t20 : Int32} {t21 : Int32} (h0 : ((v 25) ≤ l2_5)) (h1 : t9 = f5 24 (37 : Int32).toNatClampNeg) (h2 : t10 = t9 + 1) (h3 : f11 = upd2 f5 24 (upd (f5 24) (37 : Int32).toNatClampNeg t10)) (h4 : r12 = gsY_X11_wearers_1 NF v5 f11 w5 g5) (h5 : gsY_X11_fittedOnes_1 NF v5 f11 w5 g5 = (r14, v16, f17, w18, g19)) (h6 : t20 = r14 ^^^ (-1)) (h7 : t21 = r12 &&& t20) : gsY_X11_goDay_1_L5 NF p1 v (n5 + 1) l2_5 v5 f5 w5 g5 = gsY_X11_goDay_1_L22 NF v t21 (4294967296 + NF) 0 v16 f17 w18 g19 := by
  subst h1 h2 h3 h4 h6 h7
  simp only [gsY_X11_goDay_1_L5, if_pos h0, h5]
theorem gsY_X11_goDay_1_q4 {NF : Nat} {p1 : Int32} {v : Nat → Int32} {n5 : Nat} {l2_5 : Int32} {v5 : Nat → Int32} {f5 : Nat → Nat → Int32} {w5 : Int64} {g5 : Nat → Int64} {r37 : Int32} {t40 : Int32} {t41 : Int32} {t42 : Int32} {r44 : Int32} {f48 : Nat → Nat → Int32} {t49 : Int32} {t50 : Int32} {r51 : Int32} {t53 : Int32} {r54 : Int32} {f56 : Nat → Nat → Int32} {t57 : Int32} {t58 : Int32} {r59 : Int32} {t61 : Int32} {r62 : Int32} {f64 : Nat → Nat → Int32} {t65 : Int32} (h0 : ¬ ((v 25) ≤ l2_5)) (h1 : r37 = gsY_X11_wearer_1 NF l2_5 v5 f5 w5 g5) (h2 : (0 ≤ r37)) (h3 : t40 = 30 + l2_5) (h4 : t41 = f5 24 (t40).toNatClampNeg) (h5 : t42 = t41 + 1) (h6 : r44 = gsY_X11_lesser_1 NF 99 t42 v5 f5 w5 g5) (h7 : f48 = upd2 f5 24 (upd (f5 24) t40.toNatClampNeg r44)) (h8 : t49 = 12 + l2_5) (h9 : t50 = f48 24 (t49).toNatClampNeg) (h10 : r51 = gsY_X11_truth_1 NF p1 v5 f48 w5 g5) (h11 : t53 = t50 - r51) (h12 : r54 = gsY_X11_greater_1 NF 0 t53 v5 f48 w5 g5) (h13 : f56 = upd2 f48 24 (upd (f48 24) t49.toNatClampNeg r54)) (h14 : t57 = 18 + l2_5) (h15 : t58 = f56 24 (t57).toNatClampNeg) (h16 : r59 = gsY_X11_truth_1 NF p1 v5 f56 w5 g5) (h17 : t61 = t58 - r59) (h18 : r62 = gsY_X11_greater_1 NF 0 t61 v5 f56 w5 g5) (h19 : f64 = upd2 f56 24 (upd (f56 24) t57.toNatClampNeg r62)) (h20 : t65 = l2_5 + 1) : gsY_X11_goDay_1_L5 NF p1 v (n5 + 1) l2_5 v5 f5 w5 g5 = gsY_X11_goDay_1_L5 NF p1 v n5 t65 v5 f64 w5 g5 := by
  subst h1 h3 h4 h5 h6 h7 h8 h9 h10 h11 h12 h13 h14 h15 h16 h17 h18 h19 h20
  simp only [gsY_X11_goDay_1_L5, if_neg h0, if_pos h2]
theorem gsY_X11_goDay_1_q5 {NF : Nat} {p1 : Int32} {v : Nat → Int32} {n5 : Nat} {l2_5 : Int32} {v5 : Nat → Int32} {f5 : Nat → Nat → Int32} {w5 : Int64} {g5 : Nat → Int64} {r37 : Int32} {t67 : Int32} (h0 : ¬ ((v 25) ≤ l2_5)) (h1 : r37 = gsY_X11_wearer_1 NF l2_5 v5 f5 w5 g5) (h2 : ¬ (0 ≤ r37)) (h3 : t67 = l2_5 + 1) : gsY_X11_goDay_1_L5 NF p1 v (n5 + 1) l2_5 v5 f5 w5 g5 = gsY_X11_goDay_1_L5 NF p1 v n5 t67 v5 f5 w5 g5 := by
  subst h1 h3
  simp only [gsY_X11_goDay_1_L5, if_neg h0, if_neg h2]
theorem gsY_X11_goDay_1_q0 {NF : Nat} {v : Nat → Int32} {t21 : Int32} {n22 : Nat} {l3_22 : Int32} {v22 : Nat → Int32} {f22 : Nat → Nat → Int32} {w22 : Int64} {g22 : Nat → Int64} (h0 : ((v 24) ≤ l3_22)) : gsY_X11_goDay_1_L22 NF v t21 (n22 + 1) l3_22 v22 f22 w22 g22 = (t21, v22, f22, w22, g22) := by
  simp only [gsY_X11_goDay_1_L22, if_pos h0]
theorem gsY_X11_goDay_1_q1 {NF : Nat} {v : Nat → Int32} {t21 : Int32} {n22 : Nat} {l3_22 : Int32} {v22 : Nat → Int32} {f22 : Nat → Nat → Int32} {w22 : Int64} {g22 : Nat → Int64} {t26 : Int32} {t27 : Int32} {t29 : Int32} (h0 : ¬ ((v 24) ≤ l3_22)) (h1 : t26 = t21 >>> (l3_22 &&& 31)) (h2 : t27 = t26 &&& 1) (h3 : ¬ (t27 = 1)) (h4 : t29 = l3_22 + 1) : gsY_X11_goDay_1_L22 NF v t21 (n22 + 1) l3_22 v22 f22 w22 g22 = gsY_X11_goDay_1_L22 NF v t21 n22 t29 v22 f22 w22 g22 := by
  subst h1 h2 h4
  simp only [gsY_X11_goDay_1_L22, if_neg h0, if_neg h3]
theorem gsY_X11_goDay_1_q2 {NF : Nat} {v : Nat → Int32} {t21 : Int32} {n22 : Nat} {l3_22 : Int32} {v22 : Nat → Int32} {f22 : Nat → Nat → Int32} {w22 : Int64} {g22 : Nat → Int64} {t26 : Int32} {t27 : Int32} {t31 : Int32} {f32 : Nat → Nat → Int32} {t33 : Int32} (h0 : ¬ ((v 24) ≤ l3_22)) (h1 : t26 = t21 >>> (l3_22 &&& 31)) (h2 : t27 = t26 &&& 1) (h3 : (t27 = 1)) (h4 : t31 = 6 + l3_22) (h5 : f32 = upd2 f22 24 (upd (f22 24) t31.toNatClampNeg (-1))) (h6 : t33 = l3_22 + 1) : gsY_X11_goDay_1_L22 NF v t21 (n22 + 1) l3_22 v22 f22 w22 g22 = gsY_X11_goDay_1_L22 NF v t21 n22 t33 v22 f32 w22 g22 := by
  subst h1 h2 h4 h5 h6
  simp only [gsY_X11_goDay_1_L22, if_neg h0, if_pos h3]
def gsY_X11_day_1 (NF : Nat) (v : Nat → Int32) (f : Nat → Nat → Int32) (w : Int64) (g : Nat → Int64) : Int32 × (Nat → Int32) × (Nat → Nat → Int32) × (Int64) × (Nat → Int64) :=
  let t1 : Int32 := f 23 (37 : Int32).toNatClampNeg
  if t1 = 999 then
    ((-1), v, f, w, g)
  else
    match gsY_X11_act_1 NF v f w g with
    | (v4, f5, w6, g7) =>
      match gsY_X11_drawRain_1 NF v4 f5 w6 g7 with
      | (r8, v10, f11, w12, g13) =>
        if r8 = 1 then
          match gsY_X11_goDay_1 NF 1 v10 f11 w12 g13 with
          | (r15, v17, f18, w19, g20) =>
            match gsY_X11_keepAir_1 NF v17 f18 w19 g20 with
            | (v22, f23, w24, g25) =>
              (r15, v22, f23, w24, g25)
        else
          match gsY_X11_goDay_1 NF 0 v10 f11 w12 g13 with
          | (r26, v28, f29, w30, g31) =>
            match gsY_X11_keepAir_1 NF v28 f29 w30 g31 with
            | (v33, f34, w35, g36) =>
              (r26, v33, f34, w35, g36)
theorem gsY_X11_day_1_q0 {NF : Nat} {v : Nat → Int32} {f : Nat → Nat → Int32} {w : Int64} {g : Nat → Int64} {t1 : Int32} {v4 : Nat → Int32} {f5 : Nat → Nat → Int32} {w6 : Int64} {g7 : Nat → Int64} {v10 : Nat → Int32} {f11 : Nat → Nat → Int32} {w12 : Int64} {g13 : Nat → Int64} {r15 : Int32} {v17 : Nat → Int32} {f18 : Nat → Nat → Int32} {w19 : Int64} {g20 : Nat → Int64} {v22 : Nat → Int32} {f23 : Nat → Nat → Int32} {w24 : Int64} {g25 : Nat → Int64} (h0 : t1 = f 23 (37 : Int32).toNatClampNeg) (h1 : ¬ (t1 = 999)) (h2 : gsY_X11_act_1 NF v f w g = (v4, f5, w6, g7)) (h3 : gsY_X11_drawRain_1 NF v4 f5 w6 g7 = (1, v10, f11, w12, g13)) (h5 : gsY_X11_goDay_1 NF 1 v10 f11 w12 g13 = (r15, v17, f18, w19, g20)) (h6 : gsY_X11_keepAir_1 NF v17 f18 w19 g20 = (v22, f23, w24, g25)) : gsY_X11_day_1 NF v f w g = (r15, v22, f23, w24, g25) := by
  subst h0
  simp only [gsY_X11_day_1, if_neg h1, h2, h3, h5, h6, ite11, ite01, if_true, if_false]
theorem gsY_X11_day_1_q1 {NF : Nat} {v : Nat → Int32} {f : Nat → Nat → Int32} {w : Int64} {g : Nat → Int64} {t1 : Int32} {v4 : Nat → Int32} {f5 : Nat → Nat → Int32} {w6 : Int64} {g7 : Nat → Int64} {v10 : Nat → Int32} {f11 : Nat → Nat → Int32} {w12 : Int64} {g13 : Nat → Int64} {r26 : Int32} {v28 : Nat → Int32} {f29 : Nat → Nat → Int32} {w30 : Int64} {g31 : Nat → Int64} {v33 : Nat → Int32} {f34 : Nat → Nat → Int32} {w35 : Int64} {g36 : Nat → Int64} (h0 : t1 = f 23 (37 : Int32).toNatClampNeg) (h1 : ¬ (t1 = 999)) (h2 : gsY_X11_act_1 NF v f w g = (v4, f5, w6, g7)) (h3 : gsY_X11_drawRain_1 NF v4 f5 w6 g7 = (0, v10, f11, w12, g13)) (h5 : gsY_X11_goDay_1 NF 0 v10 f11 w12 g13 = (r26, v28, f29, w30, g31)) (h6 : gsY_X11_keepAir_1 NF v28 f29 w30 g31 = (v33, f34, w35, g36)) : gsY_X11_day_1 NF v f w g = (r26, v33, f34, w35, g36) := by
  subst h0
  simp only [gsY_X11_day_1, if_neg h1, h2, h3, h5, h6, ite11, ite01, if_true, if_false]
theorem gsY_X11_day_1_q2 {NF : Nat} {v : Nat → Int32} {f : Nat → Nat → Int32} {w : Int64} {g : Nat → Int64} {t1 : Int32} (h0 : t1 = f 23 (37 : Int32).toNatClampNeg) (h1 : (t1 = 999)) : gsY_X11_day_1 NF v f w g = ((-1), v, f, w, g) := by
  subst h0
  simp only [gsY_X11_day_1, if_pos h1]
def gsY_X11_don_1 (NF : Nat) (p1 : Int32) (p2 : Int32) (v : Nat → Int32) (f : Nat → Nat → Int32) (w : Int64) (g : Nat → Int64) : Int32 × (Nat → Int32) × (Nat → Nat → Int32) × (Int64) × (Nat → Int64) :=
  match gsY_X11_fill_1 NF v f w g with
  | (v2, f3, w4, g5) =>
    if gsY_X11_isMan_1 NF p1 v2 f3 w4 g5 = 1 then
      if gsY_X11_isCoat_1 NF p2 v2 f3 w4 g5 = 1 then
        let r12 : Int32 := gsY_X11_wearer_1 NF p2 v2 f3 w4 g5
        if r12 < 0 then
          match gsY_X11_act_1 NF v2 f3 w4 g5 with
          | (v16, f17, w18, g19) =>
            let t20 : Int32 := 6 + p1
            let t22 : Int32 := f17 23 (t20).toNatClampNeg
            let f23 : Nat → Nat → Int32 := upd2 f17 23 (upd (f17 23) t20.toNatClampNeg p2)
            (t22, v16, f23, w18, g19)
        else
          ((-2), v2, f3, w4, g5)
      else
        ((-2), v2, f3, w4, g5)
    else
      ((-2), v2, f3, w4, g5)
theorem gsY_X11_don_1_q0 {NF : Nat} {p1 : Int32} {p2 : Int32} {v : Nat → Int32} {f : Nat → Nat → Int32} {w : Int64} {g : Nat → Int64} {v2 : Nat → Int32} {f3 : Nat → Nat → Int32} {w4 : Int64} {g5 : Nat → Int64} {r12 : Int32} {v16 : Nat → Int32} {f17 : Nat → Nat → Int32} {w18 : Int64} {g19 : Nat → Int64} {t20 : Int32} {t22 : Int32} {f23 : Nat → Nat → Int32} (h0 : gsY_X11_fill_1 NF v f w g = (v2, f3, w4, g5)) (h1 : gsY_X11_isMan_1 NF p1 v2 f3 w4 g5 = 1) (h2 : gsY_X11_isCoat_1 NF p2 v2 f3 w4 g5 = 1) (h3 : r12 = gsY_X11_wearer_1 NF p2 v2 f3 w4 g5) (h4 : (r12 < 0)) (h5 : gsY_X11_act_1 NF v2 f3 w4 g5 = (v16, f17, w18, g19)) (h6 : t20 = 6 + p1) (h7 : t22 = f17 23 (t20).toNatClampNeg) (h8 : f23 = upd2 f17 23 (upd (f17 23) t20.toNatClampNeg p2)) : gsY_X11_don_1 NF p1 p2 v f w g = (t22, v16, f23, w18, g19) := by
  subst h3 h6 h7 h8
  simp only [gsY_X11_don_1, h0, h1, h2, if_pos h4, h5, ite11, ite01, if_true, if_false]
theorem gsY_X11_don_1_q1 {NF : Nat} {p1 : Int32} {p2 : Int32} {v : Nat → Int32} {f : Nat → Nat → Int32} {w : Int64} {g : Nat → Int64} {v2 : Nat → Int32} {f3 : Nat → Nat → Int32} {w4 : Int64} {g5 : Nat → Int64} {r12 : Int32} (h0 : gsY_X11_fill_1 NF v f w g = (v2, f3, w4, g5)) (h1 : gsY_X11_isMan_1 NF p1 v2 f3 w4 g5 = 1) (h2 : gsY_X11_isCoat_1 NF p2 v2 f3 w4 g5 = 1) (h3 : r12 = gsY_X11_wearer_1 NF p2 v2 f3 w4 g5) (h4 : ¬ (r12 < 0)) : gsY_X11_don_1 NF p1 p2 v f w g = ((-2), v2, f3, w4, g5) := by
  subst h3
  simp only [gsY_X11_don_1, h0, h1, h2, if_neg h4, ite11, ite01, if_true, if_false]
theorem gsY_X11_don_1_q2 {NF : Nat} {p1 : Int32} {p2 : Int32} {v : Nat → Int32} {f : Nat → Nat → Int32} {w : Int64} {g : Nat → Int64} {v2 : Nat → Int32} {f3 : Nat → Nat → Int32} {w4 : Int64} {g5 : Nat → Int64} (h0 : gsY_X11_fill_1 NF v f w g = (v2, f3, w4, g5)) (h1 : gsY_X11_isMan_1 NF p1 v2 f3 w4 g5 = 1) (h2 : gsY_X11_isCoat_1 NF p2 v2 f3 w4 g5 = 0) : gsY_X11_don_1 NF p1 p2 v f w g = ((-2), v2, f3, w4, g5) := by
  simp only [gsY_X11_don_1, h0, h1, h2, ite11, ite01, if_true, if_false]
theorem gsY_X11_don_1_q3 {NF : Nat} {p1 : Int32} {p2 : Int32} {v : Nat → Int32} {f : Nat → Nat → Int32} {w : Int64} {g : Nat → Int64} {v2 : Nat → Int32} {f3 : Nat → Nat → Int32} {w4 : Int64} {g5 : Nat → Int64} (h0 : gsY_X11_fill_1 NF v f w g = (v2, f3, w4, g5)) (h1 : gsY_X11_isMan_1 NF p1 v2 f3 w4 g5 = 0) : gsY_X11_don_1 NF p1 p2 v f w g = ((-2), v2, f3, w4, g5) := by
  simp only [gsY_X11_don_1, h0, h1, ite11, ite01, if_true, if_false]
def gsY_X11_doff_1 (NF : Nat) (p1 : Int32) (v : Nat → Int32) (f : Nat → Nat → Int32) (w : Int64) (g : Nat → Int64) : Int32 × (Nat → Int32) × (Nat → Nat → Int32) × (Int64) × (Nat → Int64) :=
  if gsY_X11_isMan_1 NF p1 v f w g = 1 then
    let t4 : Int32 := 6 + p1
    let t6 : Int32 := f 23 (t4).toNatClampNeg
    if 0 ≤ t6 then
      match gsY_X11_act_1 NF v f w g with
      | (v9, f10, w11, g12) =>
        let t13 : Int32 := f10 23 (t4).toNatClampNeg
        let f14 : Nat → Nat → Int32 := upd2 f10 23 (upd (f10 23) t4.toNatClampNeg (-1))
        (t13, v9, f14, w11, g12)
    else
      ((-1), v, f, w, g)
  else
    ((-1), v, f, w, g)
theorem gsY_X11_doff_1_q0 {NF : Nat} {p1 : Int32} {v : Nat → Int32} {f : Nat → Nat → Int32} {w : Int64} {g : Nat → Int64} {t4 : Int32} {t6 : Int32} {v9 : Nat → Int32} {f10 : Nat → Nat → Int32} {w11 : Int64} {g12 : Nat → Int64} {t13 : Int32} {f14 : Nat → Nat → Int32} (h0 : gsY_X11_isMan_1 NF p1 v f w g = 1) (h1 : t4 = 6 + p1) (h2 : t6 = f 23 (t4).toNatClampNeg) (h3 : (0 ≤ t6)) (h4 : gsY_X11_act_1 NF v f w g = (v9, f10, w11, g12)) (h5 : t13 = f10 23 (t4).toNatClampNeg) (h6 : f14 = upd2 f10 23 (upd (f10 23) t4.toNatClampNeg (-1))) : gsY_X11_doff_1 NF p1 v f w g = (t13, v9, f14, w11, g12) := by
  subst h1 h2 h5 h6
  simp only [gsY_X11_doff_1, h0, if_pos h3, h4, ite11, ite01, if_true, if_false]
theorem gsY_X11_doff_1_q1 {NF : Nat} {p1 : Int32} {v : Nat → Int32} {f : Nat → Nat → Int32} {w : Int64} {g : Nat → Int64} {t4 : Int32} {t6 : Int32} (h0 : gsY_X11_isMan_1 NF p1 v f w g = 1) (h1 : t4 = 6 + p1) (h2 : t6 = f 23 (t4).toNatClampNeg) (h3 : ¬ (0 ≤ t6)) : gsY_X11_doff_1 NF p1 v f w g = ((-1), v, f, w, g) := by
  subst h1 h2
  simp only [gsY_X11_doff_1, h0, if_neg h3, ite11, ite01, if_true, if_false]
theorem gsY_X11_doff_1_q2 {NF : Nat} {p1 : Int32} {v : Nat → Int32} {f : Nat → Nat → Int32} {w : Int64} {g : Nat → Int64} (h0 : gsY_X11_isMan_1 NF p1 v f w g = 0) : gsY_X11_doff_1 NF p1 v f w g = ((-1), v, f, w, g) := by
  simp only [gsY_X11_doff_1, h0, ite11, ite01, if_true, if_false]
def gsY_X11_letout_1 (NF : Nat) (p1 : Int32) (p2 : Int32) (v : Nat → Int32) (f : Nat → Nat → Int32) (w : Int64) (g : Nat → Int64) : Int32 × (Nat → Int32) × (Nat → Nat → Int32) × (Int64) × (Nat → Int64) :=
  if gsY_X11_isCoat_1 NF p1 v f w g = 1 then
    let t4 : Int32 := 24 + p1
    let t6 : Int32 := f 23 (t4).toNatClampNeg
    if gsY_X11_isIn_1 NF p2 1 t6 v f w g = 1 then
      let t11 : Int32 := 18 + p1
      let t12 : Int32 := f 23 (t11).toNatClampNeg
      let t13 : Int32 := t12 + p2
      if t13 ≤ 99 then
        match gsY_X11_act_1 NF v f w g with
        | (v16, f17, w18, g19) =>
          let t20 : Int32 := f17 23 (t4).toNatClampNeg
          let t21 : Int32 := t20 - p2
          let f22 : Nat → Nat → Int32 := upd2 f17 23 (upd (f17 23) t4.toNatClampNeg t21)
          let t23 : Int32 := f22 23 (t11).toNatClampNeg
          let t24 : Int32 := t23 + p2
          let f25 : Nat → Nat → Int32 := upd2 f22 23 (upd (f22 23) t11.toNatClampNeg t24)
          let t26 : Int32 := f25 23 (t11).toNatClampNeg
          (t26, v16, f25, w18, g19)
      else
        ((-1), v, f, w, g)
    else
      ((-1), v, f, w, g)
  else
    ((-1), v, f, w, g)
theorem gsY_X11_letout_1_q0 {NF : Nat} {p1 : Int32} {p2 : Int32} {v : Nat → Int32} {f : Nat → Nat → Int32} {w : Int64} {g : Nat → Int64} {t4 : Int32} {t6 : Int32} {t11 : Int32} {t12 : Int32} {t13 : Int32} {v16 : Nat → Int32} {f17 : Nat → Nat → Int32} {w18 : Int64} {g19 : Nat → Int64} {t20 : Int32} {t21 : Int32} {f22 : Nat → Nat → Int32} {t23 : Int32} {t24 : Int32} {f25 : Nat → Nat → Int32} {t26 : Int32} (h0 : gsY_X11_isCoat_1 NF p1 v f w g = 1) (h1 : t4 = 24 + p1) (h2 : t6 = f 23 (t4).toNatClampNeg) (h3 : gsY_X11_isIn_1 NF p2 1 t6 v f w g = 1) (h4 : t11 = 18 + p1) (h5 : t12 = f 23 (t11).toNatClampNeg) (h6 : t13 = t12 + p2) (h7 : (t13 ≤ 99)) (h8 : gsY_X11_act_1 NF v f w g = (v16, f17, w18, g19)) (h9 : t20 = f17 23 (t4).toNatClampNeg) (h10 : t21 = t20 - p2) (h11 : f22 = upd2 f17 23 (upd (f17 23) t4.toNatClampNeg t21)) (h12 : t23 = f22 23 (t11).toNatClampNeg) (h13 : t24 = t23 + p2) (h14 : f25 = upd2 f22 23 (upd (f22 23) t11.toNatClampNeg t24)) (h15 : t26 = f25 23 (t11).toNatClampNeg) : gsY_X11_letout_1 NF p1 p2 v f w g = (t26, v16, f25, w18, g19) := by
  subst h1 h2 h4 h5 h6 h9 h10 h11 h12 h13 h14 h15
  simp only [gsY_X11_letout_1, h0, h3, if_pos h7, h8, ite11, ite01, if_true, if_false]
theorem gsY_X11_letout_1_q1 {NF : Nat} {p1 : Int32} {p2 : Int32} {v : Nat → Int32} {f : Nat → Nat → Int32} {w : Int64} {g : Nat → Int64} {t4 : Int32} {t6 : Int32} {t11 : Int32} {t12 : Int32} {t13 : Int32} (h0 : gsY_X11_isCoat_1 NF p1 v f w g = 1) (h1 : t4 = 24 + p1) (h2 : t6 = f 23 (t4).toNatClampNeg) (h3 : gsY_X11_isIn_1 NF p2 1 t6 v f w g = 1) (h4 : t11 = 18 + p1) (h5 : t12 = f 23 (t11).toNatClampNeg) (h6 : t13 = t12 + p2) (h7 : ¬ (t13 ≤ 99)) : gsY_X11_letout_1 NF p1 p2 v f w g = ((-1), v, f, w, g) := by
  subst h1 h2 h4 h5 h6
  simp only [gsY_X11_letout_1, h0, h3, if_neg h7, ite11, ite01, if_true, if_false]
theorem gsY_X11_letout_1_q2 {NF : Nat} {p1 : Int32} {p2 : Int32} {v : Nat → Int32} {f : Nat → Nat → Int32} {w : Int64} {g : Nat → Int64} {t4 : Int32} {t6 : Int32} (h0 : gsY_X11_isCoat_1 NF p1 v f w g = 1) (h1 : t4 = 24 + p1) (h2 : t6 = f 23 (t4).toNatClampNeg) (h3 : gsY_X11_isIn_1 NF p2 1 t6 v f w g = 0) : gsY_X11_letout_1 NF p1 p2 v f w g = ((-1), v, f, w, g) := by
  subst h1 h2
  simp only [gsY_X11_letout_1, h0, h3, ite11, ite01, if_true, if_false]
theorem gsY_X11_letout_1_q3 {NF : Nat} {p1 : Int32} {p2 : Int32} {v : Nat → Int32} {f : Nat → Nat → Int32} {w : Int64} {g : Nat → Int64} (h0 : gsY_X11_isCoat_1 NF p1 v f w g = 0) : gsY_X11_letout_1 NF p1 p2 v f w g = ((-1), v, f, w, g) := by
  simp only [gsY_X11_letout_1, h0, ite11, ite01, if_true, if_false]
def gsY_X11_takein_1 (NF : Nat) (p1 : Int32) (p2 : Int32) (v : Nat → Int32) (f : Nat → Nat → Int32) (w : Int64) (g : Nat → Int64) : Int32 × (Nat → Int32) × (Nat → Nat → Int32) × (Int64) × (Nat → Int64) :=
  if gsY_X11_isCoat_1 NF p1 v f w g = 1 then
    let t4 : Int32 := 18 + p1
    let t6 : Int32 := f 23 (t4).toNatClampNeg
    if gsY_X11_isIn_1 NF p2 1 t6 v f w g = 1 then
      let t11 : Int32 := 24 + p1
      let t12 : Int32 := f 23 (t11).toNatClampNeg
      let t13 : Int32 := t12 + p2
      if t13 ≤ 99 then
        match gsY_X11_act_1 NF v f w g with
        | (v16, f17, w18, g19) =>
          let t20 : Int32 := f17 23 (t11).toNatClampNeg
          let t21 : Int32 := t20 + p2
          let f22 : Nat → Nat → Int32 := upd2 f17 23 (upd (f17 23) t11.toNatClampNeg t21)
          let t23 : Int32 := f22 23 (t4).toNatClampNeg
          let t24 : Int32 := t23 - p2
          let f25 : Nat → Nat → Int32 := upd2 f22 23 (upd (f22 23) t4.toNatClampNeg t24)
          let t26 : Int32 := f25 23 (t4).toNatClampNeg
          (t26, v16, f25, w18, g19)
      else
        ((-1), v, f, w, g)
    else
      ((-1), v, f, w, g)
  else
    ((-1), v, f, w, g)
theorem gsY_X11_takein_1_q0 {NF : Nat} {p1 : Int32} {p2 : Int32} {v : Nat → Int32} {f : Nat → Nat → Int32} {w : Int64} {g : Nat → Int64} {t4 : Int32} {t6 : Int32} {t11 : Int32} {t12 : Int32} {t13 : Int32} {v16 : Nat → Int32} {f17 : Nat → Nat → Int32} {w18 : Int64} {g19 : Nat → Int64} {t20 : Int32} {t21 : Int32} {f22 : Nat → Nat → Int32} {t23 : Int32} {t24 : Int32} {f25 : Nat → Nat → Int32} {t26 : Int32} (h0 : gsY_X11_isCoat_1 NF p1 v f w g = 1) (h1 : t4 = 18 + p1) (h2 : t6 = f 23 (t4).toNatClampNeg) (h3 : gsY_X11_isIn_1 NF p2 1 t6 v f w g = 1) (h4 : t11 = 24 + p1) (h5 : t12 = f 23 (t11).toNatClampNeg) (h6 : t13 = t12 + p2) (h7 : (t13 ≤ 99)) (h8 : gsY_X11_act_1 NF v f w g = (v16, f17, w18, g19)) (h9 : t20 = f17 23 (t11).toNatClampNeg) (h10 : t21 = t20 + p2) (h11 : f22 = upd2 f17 23 (upd (f17 23) t11.toNatClampNeg t21)) (h12 : t23 = f22 23 (t4).toNatClampNeg) (h13 : t24 = t23 - p2) (h14 : f25 = upd2 f22 23 (upd (f22 23) t4.toNatClampNeg t24)) (h15 : t26 = f25 23 (t4).toNatClampNeg) : gsY_X11_takein_1 NF p1 p2 v f w g = (t26, v16, f25, w18, g19) := by
  subst h1 h2 h4 h5 h6 h9 h10 h11 h12 h13 h14 h15
  simp only [gsY_X11_takein_1, h0, h3, if_pos h7, h8, ite11, ite01, if_true, if_false]
theorem gsY_X11_takein_1_q1 {NF : Nat} {p1 : Int32} {p2 : Int32} {v : Nat → Int32} {f : Nat → Nat → Int32} {w : Int64} {g : Nat → Int64} {t4 : Int32} {t6 : Int32} {t11 : Int32} {t12 : Int32} {t13 : Int32} (h0 : gsY_X11_isCoat_1 NF p1 v f w g = 1) (h1 : t4 = 18 + p1) (h2 : t6 = f 23 (t4).toNatClampNeg) (h3 : gsY_X11_isIn_1 NF p2 1 t6 v f w g = 1) (h4 : t11 = 24 + p1) (h5 : t12 = f 23 (t11).toNatClampNeg) (h6 : t13 = t12 + p2) (h7 : ¬ (t13 ≤ 99)) : gsY_X11_takein_1 NF p1 p2 v f w g = ((-1), v, f, w, g) := by
  subst h1 h2 h4 h5 h6
  simp only [gsY_X11_takein_1, h0, h3, if_neg h7, ite11, ite01, if_true, if_false]
theorem gsY_X11_takein_1_q2 {NF : Nat} {p1 : Int32} {p2 : Int32} {v : Nat → Int32} {f : Nat → Nat → Int32} {w : Int64} {g : Nat → Int64} {t4 : Int32} {t6 : Int32} (h0 : gsY_X11_isCoat_1 NF p1 v f w g = 1) (h1 : t4 = 18 + p1) (h2 : t6 = f 23 (t4).toNatClampNeg) (h3 : gsY_X11_isIn_1 NF p2 1 t6 v f w g = 0) : gsY_X11_takein_1 NF p1 p2 v f w g = ((-1), v, f, w, g) := by
  subst h1 h2
  simp only [gsY_X11_takein_1, h0, h3, ite11, ite01, if_true, if_false]
theorem gsY_X11_takein_1_q3 {NF : Nat} {p1 : Int32} {p2 : Int32} {v : Nat → Int32} {f : Nat → Nat → Int32} {w : Int64} {g : Nat → Int64} (h0 : gsY_X11_isCoat_1 NF p1 v f w g = 0) : gsY_X11_takein_1 NF p1 p2 v f w g = ((-1), v, f, w, g) := by
  simp only [gsY_X11_takein_1, h0, ite11, ite01, if_true, if_false]
def gsY_X11_hem_1 (NF : Nat) (p1 : Int32) (p2 : Int32) (v : Nat → Int32) (f : Nat → Nat → Int32) (w : Int64) (g : Nat → Int64) : Int32 × (Nat → Int32) × (Nat → Nat → Int32) × (Int64) × (Nat → Int64) :=
  if gsY_X11_isCoat_1 NF p1 v f w g = 1 then
    let t4 : Int32 := 12 + p1
    let t6 : Int32 := f 23 (t4).toNatClampNeg
    if gsY_X11_isIn_1 NF p2 1 t6 v f w g = 1 then
      match gsY_X11_act_1 NF v f w g with
      | (v12, f13, w14, g15) =>
        let t16 : Int32 := f13 23 (t4).toNatClampNeg
        let t17 : Int32 := t16 - p2
        let f18 : Nat → Nat → Int32 := upd2 f13 23 (upd (f13 23) t4.toNatClampNeg t17)
        let t19 : Int32 := f18 23 (t4).toNatClampNeg
        (t19, v12, f18, w14, g15)
    else
      ((-1), v, f, w, g)
  else
    ((-1), v, f, w, g)
theorem gsY_X11_hem_1_q0 {NF : Nat} {p1 : Int32} {p2 : Int32} {v : Nat → Int32} {f : Nat → Nat → Int32} {w : Int64} {g : Nat → Int64} {t4 : Int32} {t6 : Int32} {v12 : Nat → Int32} {f13 : Nat → Nat → Int32} {w14 : Int64} {g15 : Nat → Int64} {t16 : Int32} {t17 : Int32} {f18 : Nat → Nat → Int32} {t19 : Int32} (h0 : gsY_X11_isCoat_1 NF p1 v f w g = 1) (h1 : t4 = 12 + p1) (h2 : t6 = f 23 (t4).toNatClampNeg) (h3 : gsY_X11_isIn_1 NF p2 1 t6 v f w g = 1) (h4 : gsY_X11_act_1 NF v f w g = (v12, f13, w14, g15)) (h5 : t16 = f13 23 (t4).toNatClampNeg) (h6 : t17 = t16 - p2) (h7 : f18 = upd2 f13 23 (upd (f13 23) t4.toNatClampNeg t17)) (h8 : t19 = f18 23 (t4).toNatClampNeg) : gsY_X11_hem_1 NF p1 p2 v f w g = (t19, v12, f18, w14, g15) := by
  subst h1 h2 h5 h6 h7 h8
  simp only [gsY_X11_hem_1, h0, h3, h4, ite11, ite01, if_true, if_false]
theorem gsY_X11_hem_1_q1 {NF : Nat} {p1 : Int32} {p2 : Int32} {v : Nat → Int32} {f : Nat → Nat → Int32} {w : Int64} {g : Nat → Int64} {t4 : Int32} {t6 : Int32} (h0 : gsY_X11_isCoat_1 NF p1 v f w g = 1) (h1 : t4 = 12 + p1) (h2 : t6 = f 23 (t4).toNatClampNeg) (h3 : gsY_X11_isIn_1 NF p2 1 t6 v f w g = 0) : gsY_X11_hem_1 NF p1 p2 v f w g = ((-1), v, f, w, g) := by
  subst h1 h2
  simp only [gsY_X11_hem_1, h0, h3, ite11, ite01, if_true, if_false]
theorem gsY_X11_hem_1_q2 {NF : Nat} {p1 : Int32} {p2 : Int32} {v : Nat → Int32} {f : Nat → Nat → Int32} {w : Int64} {g : Nat → Int64} (h0 : gsY_X11_isCoat_1 NF p1 v f w g = 0) : gsY_X11_hem_1 NF p1 p2 v f w g = ((-1), v, f, w, g) := by
  simp only [gsY_X11_hem_1, h0, ite11, ite01, if_true, if_false]
def gsY_X11_turn_1 (NF : Nat) (p1 : Int32) (v : Nat → Int32) (f : Nat → Nat → Int32) (w : Int64) (g : Nat → Int64) : Int32 × (Nat → Int32) × (Nat → Nat → Int32) × (Int64) × (Nat → Int64) :=
  if gsY_X11_isCoat_1 NF p1 v f w g = 1 then
    let t4 : Int32 := f 23 (36 : Int32).toNatClampNeg
    let t5 : Int32 := t4 >>> (p1 &&& 31)
    let t6 : Int32 := t5 &&& 1
    if t6 = 1 then
      ((-1), v, f, w, g)
    else
      match gsY_X11_act_1 NF v f w g with
      | (v9, f10, w11, g12) =>
        let t13 : Int32 := 30 + p1
        let t15 : Int32 := f10 23 (t13).toNatClampNeg
        let f16 : Nat → Nat → Int32 := upd2 f10 23 (upd (f10 23) t13.toNatClampNeg 0)
        let t17 : Int32 := f16 23 (36 : Int32).toNatClampNeg
        let t18 : Int32 := 1 <<< (p1 &&& 31)
        let t19 : Int32 := t17 ||| t18
        let f20 : Nat → Nat → Int32 := upd2 f16 23 (upd (f16 23) (36 : Int32).toNatClampNeg t19)
        (t15, v9, f20, w11, g12)
  else
    ((-1), v, f, w, g)
theorem gsY_X11_turn_1_q0 {NF : Nat} {p1 : Int32} {v : Nat → Int32} {f : Nat → Nat → Int32} {w : Int64} {g : Nat → Int64} {t4 : Int32} {t5 : Int32} {t6 : Int32} {v9 : Nat → Int32} {f10 : Nat → Nat → Int32} {w11 : Int64} {g12 : Nat → Int64} {t13 : Int32} {t15 : Int32} {f16 : Nat → Nat → Int32} {t17 : Int32} {t18 : Int32} {t19 : Int32} {f20 : Nat → Nat → Int32} (h0 : gsY_X11_isCoat_1 NF p1 v f w g = 1) (h1 : t4 = f 23 (36 : Int32).toNatClampNeg) (h2 : t5 = t4 >>> (p1 &&& 31)) (h3 : t6 = t5 &&& 1) (h4 : ¬ (t6 = 1)) (h5 : gsY_X11_act_1 NF v f w g = (v9, f10, w11, g12)) (h6 : t13 = 30 + p1) (h7 : t15 = f10 23 (t13).toNatClampNeg) (h8 : f16 = upd2 f10 23 (upd (f10 23) t13.toNatClampNeg 0)) (h9 : t17 = f16 23 (36 : Int32).toNatClampNeg) (h10 : t18 = 1 <<< (p1 &&& 31)) (h11 : t19 = t17 ||| t18) (h12 : f20 = upd2 f16 23 (upd (f16 23) (36 : Int32).toNatClampNeg t19)) : gsY_X11_turn_1 NF p1 v f w g = (t15, v9, f20, w11, g12) := by
  subst h1 h2 h3 h6 h7 h8 h9 h10 h11 h12
  simp only [gsY_X11_turn_1, h0, if_neg h4, h5, ite11, ite01, if_true, if_false]
theorem gsY_X11_turn_1_q1 {NF : Nat} {p1 : Int32} {v : Nat → Int32} {f : Nat → Nat → Int32} {w : Int64} {g : Nat → Int64} {t4 : Int32} {t5 : Int32} {t6 : Int32} (h0 : gsY_X11_isCoat_1 NF p1 v f w g = 1) (h1 : t4 = f 23 (36 : Int32).toNatClampNeg) (h2 : t5 = t4 >>> (p1 &&& 31)) (h3 : t6 = t5 &&& 1) (h4 : (t6 = 1)) : gsY_X11_turn_1 NF p1 v f w g = ((-1), v, f, w, g) := by
  subst h1 h2 h3
  simp only [gsY_X11_turn_1, h0, if_pos h4, ite11, ite01, if_true, if_false]
theorem gsY_X11_turn_1_q2 {NF : Nat} {p1 : Int32} {v : Nat → Int32} {f : Nat → Nat → Int32} {w : Int64} {g : Nat → Int64} (h0 : gsY_X11_isCoat_1 NF p1 v f w g = 0) : gsY_X11_turn_1 NF p1 v f w g = ((-1), v, f, w, g) := by
  simp only [gsY_X11_turn_1, h0, ite11, ite01, if_true, if_false]
def gsY_X11_exchange_1_L1 (NF : Nat) (p1 : Int32) : Nat → (Int32) → (Nat → Int32) → (Nat → Nat → Int32) → (Int64) → (Nat → Int64) → (Nat → Int32) × (Nat → Nat → Int32) × (Int64) × (Nat → Int64)
  | 0, _, _, _, _, _ => ((fun _ => 0), (fun _ _ => 0), 0, (fun _ => 0))
  | n1 + 1, l2_1, v1, f1, w1, g1 =>
    if 39 ≤ l2_1 then
      (v1, f1, w1, g1)
    else
      let t3 : Int32 := p1 + l2_1
      let t6 : Int32 := f1 25 (t3).toNatClampNeg
      let t7 : Int32 := f1 23 (l2_1).toNatClampNeg
      let f8 : Nat → Nat → Int32 := upd2 f1 25 (upd (f1 25) t3.toNatClampNeg t7)
      let f9 : Nat → Nat → Int32 := upd2 f8 23 (upd (f8 23) l2_1.toNatClampNeg t6)
      let t10 : Int32 := l2_1 + 1
      gsY_X11_exchange_1_L1 NF p1 n1 t10 v1 f9 w1 g1
def gsY_X11_exchange_1 (NF : Nat) (p1 : Int32) (v : Nat → Int32) (f : Nat → Nat → Int32) (w : Int64) (g : Nat → Int64) : (Nat → Int32) × (Nat → Nat → Int32) × (Int64) × (Nat → Int64) :=
  gsY_X11_exchange_1_L1 NF p1 (4294967296 + NF) 0 v f w g
theorem gsY_X11_exchange_1_q2 {NF : Nat} {p1 : Int32} {v : Nat → Int32} {f : Nat → Nat → Int32} {w : Int64} {g : Nat → Int64}  : gsY_X11_exchange_1 NF p1 v f w g = gsY_X11_exchange_1_L1 NF p1 (4294967296 + NF) 0 v f w g := by
  simp only [gsY_X11_exchange_1]
theorem gsY_X11_exchange_1_q0 {NF : Nat} {p1 : Int32} {n1 : Nat} {l2_1 : Int32} {v1 : Nat → Int32} {f1 : Nat → Nat → Int32} {w1 : Int64} {g1 : Nat → Int64} (h0 : (39 ≤ l2_1)) : gsY_X11_exchange_1_L1 NF p1 (n1 + 1) l2_1 v1 f1 w1 g1 = (v1, f1, w1, g1) := by
  simp only [gsY_X11_exchange_1_L1, if_pos h0]
theorem gsY_X11_exchange_1_q1 {NF : Nat} {p1 : Int32} {n1 : Nat} {l2_1 : Int32} {v1 : Nat → Int32} {f1 : Nat → Nat → Int32} {w1 : Int64} {g1 : Nat → Int64} {t3 : Int32} {t6 : Int32} {t7 : Int32} {f8 : Nat → Nat → Int32} {f9 : Nat → Nat → Int32} {t10 : Int32} (h0 : ¬ (39 ≤ l2_1)) (h1 : t3 = p1 + l2_1) (h2 : t6 = f1 25 (t3).toNatClampNeg) (h3 : t7 = f1 23 (l2_1).toNatClampNeg) (h4 : f8 = upd2 f1 25 (upd (f1 25) t3.toNatClampNeg t7)) (h5 : f9 = upd2 f8 23 (upd (f8 23) l2_1.toNatClampNeg t6)) (h6 : t10 = l2_1 + 1) : gsY_X11_exchange_1_L1 NF p1 (n1 + 1) l2_1 v1 f1 w1 g1 = gsY_X11_exchange_1_L1 NF p1 n1 t10 v1 f9 w1 g1 := by
  subst h1 h2 h3 h4 h5 h6
  simp only [gsY_X11_exchange_1_L1, if_neg h0]
def gsY_X11_undo_1 (NF : Nat) (v : Nat → Int32) (f : Nat → Nat → Int32) (w : Int64) (g : Nat → Int64) : Int32 × (Nat → Int32) × (Nat → Nat → Int32) × (Int64) × (Nat → Int64) :=
  if (v 35) = 0 then
    (0, v, f, w, g)
  else
    let t2 : Int32 := (v 35) - 1
    let t4 : Int32 := (v 36) + 1
    let t6 : Int32 := 39 * t2
    match gsY_X11_exchange_1 NF t6 (upd (upd v 35 t2) 36 t4) f w g with
    | (v9, f10, w11, g12) =>
      (1, v9, f10, w11, g12)
theorem gsY_X11_undo_1_q0 {NF : Nat} {v : Nat → Int32} {f : Nat → Nat → Int32} {w : Int64} {g : Nat → Int64} {t2 : Int32} {t4 : Int32} {t6 : Int32} {v9 : Nat → Int32} {f10 : Nat → Nat → Int32} {w11 : Int64} {g12 : Nat → Int64} (h0 : ¬ ((v 35) = 0)) (h1 : t2 = (v 35) - 1) (h2 : t4 = (v 36) + 1) (h3 : t6 = 39 * t2) (h4 : gsY_X11_exchange_1 NF t6 (upd (upd v 35 t2) 36 t4) f w g = (v9, f10, w11, g12)) : gsY_X11_undo_1 NF v f w g = (1, v9, f10, w11, g12) := by
  subst h1 h2 h3
  simp only [gsY_X11_undo_1, if_neg h0, h4]
theorem gsY_X11_undo_1_q1 {NF : Nat} {v : Nat → Int32} {f : Nat → Nat → Int32} {w : Int64} {g : Nat → Int64} (h0 : ((v 35) = 0)) : gsY_X11_undo_1 NF v f w g = (0, v, f, w, g) := by
  simp only [gsY_X11_undo_1, if_pos h0]
def gsY_X11_redo_1 (NF : Nat) (v : Nat → Int32) (f : Nat → Nat → Int32) (w : Int64) (g : Nat → Int64) : Int32 × (Nat → Int32) × (Nat → Nat → Int32) × (Int64) × (Nat → Int64) :=
  if (v 36) = 0 then
    (0, v, f, w, g)
  else
    let t2 : Int32 := 39 * (v 35)
    match gsY_X11_exchange_1 NF t2 v f w g with
    | (v5, f6, w7, g8) =>
      let t9 : Int32 := (v 35) + 1
      let t10 : Int32 := (v 36) - 1
      (1, (upd (upd v5 35 t9) 36 t10), f6, w7, g8)
theorem gsY_X11_redo_1_q0 {NF : Nat} {v : Nat → Int32} {f : Nat → Nat → Int32} {w : Int64} {g : Nat → Int64} {t2 : Int32} {v5 : Nat → Int32} {f6 : Nat → Nat → Int32} {w7 : Int64} {g8 : Nat → Int64} {t9 : Int32} {t10 : Int32} (h0 : ¬ ((v 36) = 0)) (h1 : t2 = 39 * (v 35)) (h2 : gsY_X11_exchange_1 NF t2 v f w g = (v5, f6, w7, g8)) (h3 : t9 = (v 35) + 1) (h4 : t10 = (v 36) - 1) : gsY_X11_redo_1 NF v f w g = (1, (upd (upd v5 35 t9) 36 t10), f6, w7, g8) := by
  subst h1 h3 h4
  simp only [gsY_X11_redo_1, if_neg h0, h2]
theorem gsY_X11_redo_1_q1 {NF : Nat} {v : Nat → Int32} {f : Nat → Nat → Int32} {w : Int64} {g : Nat → Int64} (h0 : ((v 36) = 0)) : gsY_X11_redo_1 NF v f w g = (0, v, f, w, g) := by
  simp only [gsY_X11_redo_1, if_pos h0]
def gsY_X11_isBox_1 (NF : Nat) (p0 : Int32) (v : Nat → Int32) (f : Nat → Nat → Int32) (w : Int64) (g : Nat → Int64) : Int32 :=
  if p0 < 0 then
    0
  else
    if 3 ≤ p0 then
      0
    else
      1
theorem gsY_X11_isBox_1_q0 {NF : Nat} {p0 : Int32} {v : Nat → Int32} {f : Nat → Nat → Int32} {w : Int64} {g : Nat → Int64} (h0 : (p0 < 0)) : gsY_X11_isBox_1 NF p0 v f w g = 0 := by
  simp only [gsY_X11_isBox_1, if_pos h0]
theorem gsY_X11_isBox_1_q1 {NF : Nat} {p0 : Int32} {v : Nat → Int32} {f : Nat → Nat → Int32} {w : Int64} {g : Nat → Int64} (h0 : ¬ (p0 < 0)) (h1 : (3 ≤ p0)) : gsY_X11_isBox_1 NF p0 v f w g = 0 := by
  simp only [gsY_X11_isBox_1, if_neg h0, if_pos h1]
theorem gsY_X11_isBox_1_q2 {NF : Nat} {p0 : Int32} {v : Nat → Int32} {f : Nat → Nat → Int32} {w : Int64} {g : Nat → Int64} (h0 : ¬ (p0 < 0)) (h1 : ¬ (3 ≤ p0)) : gsY_X11_isBox_1 NF p0 v f w g = 1 := by
  simp only [gsY_X11_isBox_1, if_neg h0, if_neg h1]
def gsY_X11_image_1_L5 (NF : Nat) (p1 : Int32) : Nat → (Int32) → (Nat → Int32) → (Nat → Nat → Int32) → (Int64) → (Nat → Int64) → Int32 × (Nat → Int32) × (Nat → Nat → Int32) × (Int64) × (Nat → Int64)
  | 0, _, _, _, _, _ => (0, (fun _ => 0), (fun _ _ => 0), 0, (fun _ => 0))
  | n5 + 1, l2_5, v5, f5, w5, g5 =>
    if 39 ≤ l2_5 then
      let t7 : Int32 := f5 23 (37 : Int32).toNatClampNeg
      (t7, v5, f5, w5, g5)
    else
      let t8 : Int32 := 39 * p1
      let t10 : Int32 := t8 + l2_5
      let t13 : Int32 := f5 23 (l2_5).toNatClampNeg
      let f14 : Nat → Nat → Int32 := upd2 f5 37 (upd (f5 37) t10.toNatClampNeg t13)
      let t15 : Int32 := l2_5 + 1
      gsY_X11_image_1_L5 NF p1 n5 t15 v5 f14 w5 g5
def gsY_X11_image_1 (NF : Nat) (p1 : Int32) (v : Nat → Int32) (f : Nat → Nat → Int32) (w : Int64) (g : Nat → Int64) : Int32 × (Nat → Int32) × (Nat → Nat → Int32) × (Int64) × (Nat → Int64) :=
  if gsY_X11_isBox_1 NF p1 v f w g = 1 then
    let f4 : Nat → Nat → Int32 := upd2 f 36 (upd (f 36) p1.toNatClampNeg (vp_nar .boolean 1))
    gsY_X11_image_1_L5 NF p1 (4294967296 + NF) 0 v f4 w g
  else
    ((-1), v, f, w, g)
theorem gsY_X11_image_1_q2 {NF : Nat} {p1 : Int32} {v : Nat → Int32} {f : Nat → Nat → Int32} {w : Int64} {g : Nat → Int64} {f4 : Nat → Nat → Int32} (h0 : gsY_X11_isBox_1 NF p1 v f w g = 1) (h1 : f4 = upd2 f 36 (upd (f 36) p1.toNatClampNeg (vp_nar .boolean 1))) : gsY_X11_image_1 NF p1 v f w g = gsY_X11_image_1_L5 NF p1 (4294967296 + NF) 0 v f4 w g := by
  subst h1
  simp only [gsY_X11_image_1, h0, ite11, ite01, if_true, if_false]
theorem gsY_X11_image_1_q3 {NF : Nat} {p1 : Int32} {v : Nat → Int32} {f : Nat → Nat → Int32} {w : Int64} {g : Nat → Int64} (h0 : gsY_X11_isBox_1 NF p1 v f w g = 0) : gsY_X11_image_1 NF p1 v f w g = ((-1), v, f, w, g) := by
  simp only [gsY_X11_image_1, h0, ite11, ite01, if_true, if_false]
theorem gsY_X11_image_1_q0 {NF : Nat} {p1 : Int32} {n5 : Nat} {l2_5 : Int32} {v5 : Nat → Int32} {f5 : Nat → Nat → Int32} {w5 : Int64} {g5 : Nat → Int64} {t7 : Int32} (h0 : (39 ≤ l2_5)) (h1 : t7 = f5 23 (37 : Int32).toNatClampNeg) : gsY_X11_image_1_L5 NF p1 (n5 + 1) l2_5 v5 f5 w5 g5 = (t7, v5, f5, w5, g5) := by
  subst h1
  simp only [gsY_X11_image_1_L5, if_pos h0]
theorem gsY_X11_image_1_q1 {NF : Nat} {p1 : Int32} {n5 : Nat} {l2_5 : Int32} {v5 : Nat → Int32} {f5 : Nat → Nat → Int32} {w5 : Int64} {g5 : Nat → Int64} {t8 : Int32} {t10 : Int32} {t13 : Int32} {f14 : Nat → Nat → Int32} {t15 : Int32} (h0 : ¬ (39 ≤ l2_5)) (h1 : t8 = 39 * p1) (h2 : t10 = t8 + l2_5) (h3 : t13 = f5 23 (l2_5).toNatClampNeg) (h4 : f14 = upd2 f5 37 (upd (f5 37) t10.toNatClampNeg t13)) (h5 : t15 = l2_5 + 1) : gsY_X11_image_1_L5 NF p1 (n5 + 1) l2_5 v5 f5 w5 g5 = gsY_X11_image_1_L5 NF p1 n5 t15 v5 f14 w5 g5 := by
  subst h1 h2 h3 h4 h5
  simp only [gsY_X11_image_1_L5, if_neg h0]
def gsY_X11_back_1_L6 (NF : Nat) (p1 : Int32) : Nat → (Int32) → (Nat → Int32) → (Nat → Nat → Int32) → (Int64) → (Nat → Int64) → Int32 × (Nat → Int32) × (Nat → Nat → Int32) × (Int64) × (Nat → Int64)
  | 0, _, _, _, _, _ => (0, (fun _ => 0), (fun _ _ => 0), 0, (fun _ => 0))
  | n6 + 1, l2_6, v6, f6, w6, g6 =>
    if 39 ≤ l2_6 then
      let t8 : Int32 := f6 23 (37 : Int32).toNatClampNeg
      (t8, (upd (upd v6 35 0) 36 0), f6, w6, g6)
    else
      let t9 : Int32 := 39 * p1
      let t11 : Int32 := t9 + l2_6
      let t14 : Int32 := f6 37 (t11).toNatClampNeg
      let f15 : Nat → Nat → Int32 := upd2 f6 23 (upd (f6 23) l2_6.toNatClampNeg t14)
      let t16 : Int32 := l2_6 + 1
      gsY_X11_back_1_L6 NF p1 n6 t16 v6 f15 w6 g6
def gsY_X11_back_1 (NF : Nat) (p1 : Int32) (v : Nat → Int32) (f : Nat → Nat → Int32) (w : Int64) (g : Nat → Int64) : Int32 × (Nat → Int32) × (Nat → Nat → Int32) × (Int64) × (Nat → Int64) :=
  if gsY_X11_isBox_1 NF p1 v f w g = 1 then
    let t4 : Int32 := f 36 (p1).toNatClampNeg
    if t4 = 0 then
      ((-1), v, f, w, g)
    else
      gsY_X11_back_1_L6 NF p1 (4294967296 + NF) 0 v f w g
  else
    ((-1), v, f, w, g)
theorem gsY_X11_back_1_q2 {NF : Nat} {p1 : Int32} {v : Nat → Int32} {f : Nat → Nat → Int32} {w : Int64} {g : Nat → Int64} {t4 : Int32} (h0 : gsY_X11_isBox_1 NF p1 v f w g = 1) (h1 : t4 = f 36 (p1).toNatClampNeg) (h2 : ¬ (t4 = 0)) : gsY_X11_back_1 NF p1 v f w g = gsY_X11_back_1_L6 NF p1 (4294967296 + NF) 0 v f w g := by
  subst h1
  simp only [gsY_X11_back_1, h0, if_neg h2, ite11, ite01, if_true, if_false]
theorem gsY_X11_back_1_q3 {NF : Nat} {p1 : Int32} {v : Nat → Int32} {f : Nat → Nat → Int32} {w : Int64} {g : Nat → Int64} {t4 : Int32} (h0 : gsY_X11_isBox_1 NF p1 v f w g = 1) (h1 : t4 = f 36 (p1).toNatClampNeg) (h2 : (t4 = 0)) : gsY_X11_back_1 NF p1 v f w g = ((-1), v, f, w, g) := by
  subst h1
  simp only [gsY_X11_back_1, h0, if_pos h2, ite11, ite01, if_true, if_false]
theorem gsY_X11_back_1_q4 {NF : Nat} {p1 : Int32} {v : Nat → Int32} {f : Nat → Nat → Int32} {w : Int64} {g : Nat → Int64} (h0 : gsY_X11_isBox_1 NF p1 v f w g = 0) : gsY_X11_back_1 NF p1 v f w g = ((-1), v, f, w, g) := by
  simp only [gsY_X11_back_1, h0, ite11, ite01, if_true, if_false]
theorem gsY_X11_back_1_q0 {NF : Nat} {p1 : Int32} {n6 : Nat} {l2_6 : Int32} {v6 : Nat → Int32} {f6 : Nat → Nat → Int32} {w6 : Int64} {g6 : Nat → Int64} {t8 : Int32} (h0 : (39 ≤ l2_6)) (h1 : t8 = f6 23 (37 : Int32).toNatClampNeg) : gsY_X11_back_1_L6 NF p1 (n6 + 1) l2_6 v6 f6 w6 g6 = (t8, (upd (upd v6 35 0) 36 0), f6, w6, g6) := by
  subst h1
  simp only [gsY_X11_back_1_L6, if_pos h0]
theorem gsY_X11_back_1_q1 {NF : Nat} {p1 : Int32} {n6 : Nat} {l2_6 : Int32} {v6 : Nat → Int32} {f6 : Nat → Nat → Int32} {w6 : Int64} {g6 : Nat → Int64} {t9 : Int32} {t11 : Int32} {t14 : Int32} {f15 : Nat → Nat → Int32} {t16 : Int32} (h0 : ¬ (39 ≤ l2_6)) (h1 : t9 = 39 * p1) (h2 : t11 = t9 + l2_6) (h3 : t14 = f6 37 (t11).toNatClampNeg) (h4 : f15 = upd2 f6 23 (upd (f6 23) l2_6.toNatClampNeg t14)) (h5 : t16 = l2_6 + 1) : gsY_X11_back_1_L6 NF p1 (n6 + 1) l2_6 v6 f6 w6 g6 = gsY_X11_back_1_L6 NF p1 n6 t16 v6 f15 w6 g6 := by
  subst h1 h2 h3 h4 h5
  simp only [gsY_X11_back_1_L6, if_neg h0]
def gsY_X11_fitted_1 (NF : Nat) (v : Nat → Int32) (f : Nat → Nat → Int32) (w : Int64) (g : Nat → Int64) : Int32 × (Nat → Int32) × (Nat → Nat → Int32) × (Int64) × (Nat → Int64) :=
  match gsY_X11_fill_1 NF v f w g with
  | (v2, f3, w4, g5) =>
    match gsY_X11_fittedOnes_1 NF v2 f3 w4 g5 with
    | (r6, v8, f9, w10, g11) =>
      (r6, v8, f9, w10, g11)
theorem gsY_X11_fitted_1_q0 {NF : Nat} {v : Nat → Int32} {f : Nat → Nat → Int32} {w : Int64} {g : Nat → Int64} {v2 : Nat → Int32} {f3 : Nat → Nat → Int32} {w4 : Int64} {g5 : Nat → Int64} {r6 : Int32} {v8 : Nat → Int32} {f9 : Nat → Nat → Int32} {w10 : Int64} {g11 : Nat → Int64} (h0 : gsY_X11_fill_1 NF v f w g = (v2, f3, w4, g5)) (h1 : gsY_X11_fittedOnes_1 NF v2 f3 w4 g5 = (r6, v8, f9, w10, g11)) : gsY_X11_fitted_1 NF v f w g = (r6, v8, f9, w10, g11) := by
  simp only [gsY_X11_fitted_1, h0, h1]
def gsY_X11_wideOf_1_L1 (NF : Nat) (p1 : Int32) (v : Nat → Int32) (f : Nat → Nat → Int32) : Nat → (Int32) → (Int32) → Int32
  | 0, _, _ => 0
  | n1 + 1, l2_1, l3_1 =>
    if (v 24) ≤ l3_1 then
      l2_1
    else
      let t7 : Int32 := p1 >>> (l3_1 &&& 31)
      let t8 : Int32 := t7 &&& 1
      if t8 = 1 then
        let t14 : Int32 := 6 + l3_1
        let t15 : Int32 := f 24 (t14).toNatClampNeg
        let t16 : Int32 := 18 + t15
        let t18 : Int32 := f 24 (t16).toNatClampNeg
        let t19 : Int32 := l2_1 + t18
        let t20 : Int32 := l3_1 + 1
        gsY_X11_wideOf_1_L1 NF p1 v f n1 t19 t20
      else
        let t10 : Int32 := l2_1 + 0
        let t12 : Int32 := l3_1 + 1
        gsY_X11_wideOf_1_L1 NF p1 v f n1 t10 t12
def gsY_X11_wideOf_1 (NF : Nat) (p1 : Int32) (v : Nat → Int32) (f : Nat → Nat → Int32) (w : Int64) (g : Nat → Int64) : Int32 :=
  gsY_X11_wideOf_1_L1 NF p1 v f (4294967296 + NF) 0 0
theorem gsY_X11_wideOf_1_q3 {NF : Nat} {p1 : Int32} {v : Nat → Int32} {f : Nat → Nat → Int32} {w : Int64} {g : Nat → Int64}  : gsY_X11_wideOf_1 NF p1 v f w g = gsY_X11_wideOf_1_L1 NF p1 v f (4294967296 + NF) 0 0 := by
  simp only [gsY_X11_wideOf_1]
theorem gsY_X11_wideOf_1_q0 {NF : Nat} {p1 : Int32} {v : Nat → Int32} {f : Nat → Nat → Int32} {n1 : Nat} {l2_1 : Int32} {l3_1 : Int32} (h0 : ((v 24) ≤ l3_1)) : gsY_X11_wideOf_1_L1 NF p1 v f (n1 + 1) l2_1 l3_1 = l2_1 := by
  simp only [gsY_X11_wideOf_1_L1, if_pos h0]
theorem gsY_X11_wideOf_1_q1 {NF : Nat} {p1 : Int32} {v : Nat → Int32} {f : Nat → Nat → Int32} {n1 : Nat} {l2_1 : Int32} {l3_1 : Int32} {t7 : Int32} {t8 : Int32} {t10 : Int32} {t12 : Int32} (h0 : ¬ ((v 24) ≤ l3_1)) (h1 : t7 = p1 >>> (l3_1 &&& 31)) (h2 : t8 = t7 &&& 1) (h3 : ¬ (t8 = 1)) (h4 : t10 = l2_1 + 0) (h5 : t12 = l3_1 + 1) : gsY_X11_wideOf_1_L1 NF p1 v f (n1 + 1) l2_1 l3_1 = gsY_X11_wideOf_1_L1 NF p1 v f n1 t10 t12 := by
  subst h1 h2 h4 h5
  simp only [gsY_X11_wideOf_1_L1, if_neg h0, if_neg h3]
theorem gsY_X11_wideOf_1_q2 {NF : Nat} {p1 : Int32} {v : Nat → Int32} {f : Nat → Nat → Int32} {n1 : Nat} {l2_1 : Int32} {l3_1 : Int32} {t7 : Int32} {t8 : Int32} {t14 : Int32} {t15 : Int32} {t16 : Int32} {t18 : Int32} {t19 : Int32} {t20 : Int32} (h0 : ¬ ((v 24) ≤ l3_1)) (h1 : t7 = p1 >>> (l3_1 &&& 31)) (h2 : t8 = t7 &&& 1) (h3 : (t8 = 1)) (h4 : t14 = 6 + l3_1) (h5 : t15 = f 24 (t14).toNatClampNeg) (h6 : t16 = 18 + t15) (h7 : t18 = f 24 (t16).toNatClampNeg) (h8 : t19 = l2_1 + t18) (h9 : t20 = l3_1 + 1) : gsY_X11_wideOf_1_L1 NF p1 v f (n1 + 1) l2_1 l3_1 = gsY_X11_wideOf_1_L1 NF p1 v f n1 t19 t20 := by
  subst h1 h2 h4 h5 h6 h7 h8 h9
  simp only [gsY_X11_wideOf_1_L1, if_neg h0, if_pos h3]
def gsY_X11_breadth_1 (NF : Nat) (v : Nat → Int32) (f : Nat → Nat → Int32) (w : Int64) (g : Nat → Int64) : Int32 × (Nat → Int32) × (Nat → Nat → Int32) × (Int64) × (Nat → Int64) :=
  match gsY_X11_fill_1 NF v f w g with
  | (v2, f3, w4, g5) =>
    let r6 : Int32 := gsY_X11_wearers_1 NF v2 f3 w4 g5
    let r8 : Int32 := gsY_X11_wideOf_1 NF r6 v2 f3 w4 g5
    (r8, v2, f3, w4, g5)
theorem gsY_X11_breadth_1_q0 {NF : Nat} {v : Nat → Int32} {f : Nat → Nat → Int32} {w : Int64} {g : Nat → Int64} {v2 : Nat → Int32} {f3 : Nat → Nat → Int32} {w4 : Int64} {g5 : Nat → Int64} {r6 : Int32} {r8 : Int32} (h0 : gsY_X11_fill_1 NF v f w g = (v2, f3, w4, g5)) (h1 : r6 = gsY_X11_wearers_1 NF v2 f3 w4 g5) (h2 : r8 = gsY_X11_wideOf_1 NF r6 v2 f3 w4 g5) : gsY_X11_breadth_1 NF v f w g = (r8, v2, f3, w4, g5) := by
  subst h1 h2
  simp only [gsY_X11_breadth_1, h0]
def gsY_X11_members_1_L1 (NF : Nat) (p0 : Int32) : Nat → (Int32) → (Int32) → Int32
  | 0, _, _ => 0
  | n1 + 1, l1_1, l2_1 =>
    if 6 ≤ l2_1 then
      l1_1
    else
      let t3 : Int32 := p0 >>> (l2_1 &&& 31)
      let t4 : Int32 := t3 &&& 1
      let t5 : Int32 := l1_1 + t4
      let t6 : Int32 := l2_1 + 1
      gsY_X11_members_1_L1 NF p0 n1 t5 t6
def gsY_X11_members_1 (NF : Nat) (p0 : Int32) (v : Nat → Int32) (f : Nat → Nat → Int32) (w : Int64) (g : Nat → Int64) : Int32 :=
  gsY_X11_members_1_L1 NF p0 (4294967296 + NF) 0 0
theorem gsY_X11_members_1_q2 {NF : Nat} {p0 : Int32} {v : Nat → Int32} {f : Nat → Nat → Int32} {w : Int64} {g : Nat → Int64}  : gsY_X11_members_1 NF p0 v f w g = gsY_X11_members_1_L1 NF p0 (4294967296 + NF) 0 0 := by
  simp only [gsY_X11_members_1]
theorem gsY_X11_members_1_q0 {NF : Nat} {p0 : Int32} {n1 : Nat} {l1_1 : Int32} {l2_1 : Int32} (h0 : (6 ≤ l2_1)) : gsY_X11_members_1_L1 NF p0 (n1 + 1) l1_1 l2_1 = l1_1 := by
  simp only [gsY_X11_members_1_L1, if_pos h0]
theorem gsY_X11_members_1_q1 {NF : Nat} {p0 : Int32} {n1 : Nat} {l1_1 : Int32} {l2_1 : Int32} {t3 : Int32} {t4 : Int32} {t5 : Int32} {t6 : Int32} (h0 : ¬ (6 ≤ l2_1)) (h1 : t3 = p0 >>> (l2_1 &&& 31)) (h2 : t4 = t3 &&& 1) (h3 : t5 = l1_1 + t4) (h4 : t6 = l2_1 + 1) : gsY_X11_members_1_L1 NF p0 (n1 + 1) l1_1 l2_1 = gsY_X11_members_1_L1 NF p0 n1 t5 t6 := by
  subst h1 h2 h3 h4
  simp only [gsY_X11_members_1_L1, if_neg h0]
def gsY_X11_front_1_L17 (NF : Nat) (p1 : Int32) (p2 : Int32) (v11 : Nat → Int32) (f12 : Nat → Nat → Int32) (w13 : Int64) (g14 : Nat → Int64) (r15 : Int32) : Nat → (Int32) → (Int32) → Int32 × (Nat → Int32) × (Nat → Nat → Int32) × (Int64) × (Nat → Int64)
  | 0, _, _ => (0, (fun _ => 0), (fun _ _ => 0), 0, (fun _ => 0))
  | n17 + 1, l4_17, l5_17 =>
    if r15 < l5_17 then
      if 0 ≤ l4_17 then
        if p2 = 0 then
          let r23 : Int32 := gsY_X11_members_1 NF l4_17 v11 f12 w13 g14
          (r23, v11, f12, w13, g14)
        else
          (l4_17, v11, f12, w13, g14)
      else
        ((-1), v11, f12, w13, g14)
    else
      let t27 : Int32 := r15 ^^^ (-1)
      let t28 : Int32 := l5_17 &&& t27
      if t28 = 0 then
        let r32 : Int32 := gsY_X11_wideOf_1 NF l5_17 v11 f12 w13 g14
        if r32 < p1 then
          let t37 : Int32 := l5_17 + 1
          gsY_X11_front_1_L17 NF p1 p2 v11 f12 w13 g14 r15 n17 l4_17 t37
        else
          if l4_17 < 0 then
            let t42 : Int32 := l5_17 + 1
            gsY_X11_front_1_L17 NF p1 p2 v11 f12 w13 g14 r15 n17 l5_17 t42
          else
            let r44 : Int32 := gsY_X11_members_1 NF l5_17 v11 f12 w13 g14
            let r46 : Int32 := gsY_X11_members_1 NF l4_17 v11 f12 w13 g14
            if r46 ≤ r44 then
              let t51 : Int32 := l5_17 + 1
              gsY_X11_front_1_L17 NF p1 p2 v11 f12 w13 g14 r15 n17 l4_17 t51
            else
              let t55 : Int32 := l5_17 + 1
              gsY_X11_front_1_L17 NF p1 p2 v11 f12 w13 g14 r15 n17 l5_17 t55
      else
        let t30 : Int32 := l5_17 + 1
        gsY_X11_front_1_L17 NF p1 p2 v11 f12 w13 g14 r15 n17 l4_17 t30
def gsY_X11_front_1 (NF : Nat) (p1 : Int32) (p2 : Int32) (v : Nat → Int32) (f : Nat → Nat → Int32) (w : Int64) (g : Nat → Int64) : Int32 × (Nat → Int32) × (Nat → Nat → Int32) × (Int64) × (Nat → Int64) :=
  if gsY_X11_isIn_1 NF p1 0 999 v f w g = 1 then
    if gsY_X11_isIn_1 NF p2 0 1 v f w g = 1 then
      match gsY_X11_fill_1 NF v f w g with
      | (v11, f12, w13, g14) =>
        let r15 : Int32 := gsY_X11_wearers_1 NF v11 f12 w13 g14
        gsY_X11_front_1_L17 NF p1 p2 v11 f12 w13 g14 r15 (4294967296 + NF) (-1) 0
    else
      ((-1), v, f, w, g)
  else
    ((-1), v, f, w, g)
theorem gsY_X11_front_1_q8 {NF : Nat} {p1 : Int32} {p2 : Int32} {v : Nat → Int32} {f : Nat → Nat → Int32} {w : Int64} {g : Nat → Int64} {v11 : Nat → Int32} {f12 : Nat → Nat → Int32} {w13 : Int64} {g14 : Nat → Int64} {r15 : Int32} (h0 : gsY_X11_isIn_1 NF p1 0 999 v f w g = 1) (h1 : gsY_X11_isIn_1 NF p2 0 1 v f w g = 1) (h2 : gsY_X11_fill_1 NF v f w g = (v11, f12, w13, g14)) (h3 : r15 = gsY_X11_wearers_1 NF v11 f12 w13 g14) : gsY_X11_front_1 NF p1 p2 v f w g = gsY_X11_front_1_L17 NF p1 p2 v11 f12 w13 g14 r15 (4294967296 + NF) (-1) 0 := by
  subst h3
  simp only [gsY_X11_front_1, h0, h1, h2, ite11, ite01, if_true, if_false]
theorem gsY_X11_front_1_q9 {NF : Nat} {p1 : Int32} {p2 : Int32} {v : Nat → Int32} {f : Nat → Nat → Int32} {w : Int64} {g : Nat → Int64} (h0 : gsY_X11_isIn_1 NF p1 0 999 v f w g = 1) (h1 : gsY_X11_isIn_1 NF p2 0 1 v f w g = 0) : gsY_X11_front_1 NF p1 p2 v f w g = ((-1), v, f, w, g) := by
  simp only [gsY_X11_front_1, h0, h1, ite11, ite01, if_true, if_false]
theorem gsY_X11_front_1_q10 {NF : Nat} {p1 : Int32} {p2 : Int32} {v : Nat → Int32} {f : Nat → Nat → Int32} {w : Int64} {g : Nat → Int64} (h0 : gsY_X11_isIn_1 NF p1 0 999 v f w g = 0) : gsY_X11_front_1 NF p1 p2 v f w g = ((-1), v, f, w, g) := by
  simp only [gsY_X11_front_1, h0, ite11, ite01, if_true, if_false]
theorem gsY_X11_front_1_q0 {NF : Nat} {p1 : Int32} {p2 : Int32} {v11 : Nat → Int32} {f12 : Nat → Nat → Int32} {w13 : Int64} {g14 : Nat → Int64} {r15 : Int32} {n17 : Nat} {l4_17 : Int32} {l5_17 : Int32} (h0 : (r15 < l5_17)) (h1 : (0 ≤ l4_17)) (h2 : ¬ (p2 = 0)) : gsY_X11_front_1_L17 NF p1 p2 v11 f12 w13 g14 r15 (n17 + 1) l4_17 l5_17 = (l4_17, v11, f12, w13, g14) := by
  simp only [gsY_X11_front_1_L17, if_pos h0, if_pos h1, if_neg h2]
theorem gsY_X11_front_1_q1 {NF : Nat} {p1 : Int32} {p2 : Int32} {v11 : Nat → Int32} {f12 : Nat → Nat → Int32} {w13 : Int64} {g14 : Nat → Int64} {r15 : Int32} {n17 : Nat} {l4_17 : Int32} {l5_17 : Int32} {r23 : Int32} (h0 : (r15 < l5_17)) (h1 : (0 ≤ l4_17)) (h2 : (p2 = 0)) (h3 : r23 = gsY_X11_members_1 NF l4_17 v11 f12 w13 g14) : gsY_X11_front_1_L17 NF p1 p2 v11 f12 w13 g14 r15 (n17 + 1) l4_17 l5_17 = (r23, v11, f12, w13, g14) := by
  subst h3
  simp only [gsY_X11_front_1_L17, if_pos h0, if_pos h1, if_pos h2]
theorem gsY_X11_front_1_q2 {NF : Nat} {p1 : Int32} {p2 : Int32} {v11 : Nat → Int32} {f12 : Nat → Nat → Int32} {w13 : Int64} {g14 : Nat → Int64} {r15 : Int32} {n17 : Nat} {l4_17 : Int32} {l5_17 : Int32} (h0 : (r15 < l5_17)) (h1 : ¬ (0 ≤ l4_17)) : gsY_X11_front_1_L17 NF p1 p2 v11 f12 w13 g14 r15 (n17 + 1) l4_17 l5_17 = ((-1), v11, f12, w13, g14) := by
  simp only [gsY_X11_front_1_L17, if_pos h0, if_neg h1]
theorem gsY_X11_front_1_q3 {NF : Nat} {p1 : Int32} {p2 : Int32} {v11 : Nat → Int32} {f12 : Nat → Nat → Int32} {w13 : Int64} {g14 : Nat → Int64} {r15 : Int32} {n17 : Nat} {l4_17 : Int32} {l5_17 : Int32} {t27 : Int32} {t28 : Int32} {t30 : Int32} (h0 : ¬ (r15 < l5_17)) (h1 : t27 = r15 ^^^ (-1)) (h2 : t28 = l5_17 &&& t27) (h3 : ¬ (t28 = 0)) (h4 : t30 = l5_17 + 1) : gsY_X11_front_1_L17 NF p1 p2 v11 f12 w13 g14 r15 (n17 + 1) l4_17 l5_17 = gsY_X11_front_1_L17 NF p1 p2 v11 f12 w13 g14 r15 n17 l4_17 t30 := by
  subst h1 h2 h4
  simp only [gsY_X11_front_1_L17, if_neg h0, if_neg h3]
theorem gsY_X11_front_1_q4 {NF : Nat} {p1 : Int32} {p2 : Int32} {v11 : Nat → Int32} {f12 : Nat → Nat → Int32} {w13 : Int64} {g14 : Nat → Int64} {r15 : Int32} {n17 : Nat} {l4_17 : Int32} {l5_17 : Int32} {t27 : Int32} {t28 : Int32} {r32 : Int32} {t37 : Int32} (h0 : ¬ (r15 < l5_17)) (h1 : t27 = r15 ^^^ (-1)) (h2 : t28 = l5_17 &&& t27) (h3 : (t28 = 0)) (h4 : r32 = gsY_X11_wideOf_1 NF l5_17 v11 f12 w13 g14) (h5 : (r32 < p1)) (h6 : t37 = l5_17 + 1) : gsY_X11_front_1_L17 NF p1 p2 v11 f12 w13 g14 r15 (n17 + 1) l4_17 l5_17 = gsY_X11_front_1_L17 NF p1 p2 v11 f12 w13 g14 r15 n17 l4_17 t37 := by
  subst h1 h2 h4 h6
  simp only [gsY_X11_front_1_L17, if_neg h0, if_pos h3, if_pos h5]
theorem gsY_X11_front_1_q5 {NF : Nat} {p1 : Int32} {p2 : Int32} {v11 : Nat → Int32} {f12 : Nat → Nat → Int32} {w13 : Int64} {g14 : Nat → Int64} {r15 : Int32} {n17 : Nat} {l4_17 : Int32} {l5_17 : Int32} {t27 : Int32} {t28 : Int32} {r32 : Int32} {t42 : Int32} (h0 : ¬ (r15 < l5_17)) (h1 : t27 = r15 ^^^ (-1)) (h2 : t28 = l5_17 &&& t27) (h3 : (t28 = 0)) (h4 : r32 = gsY_X11_wideOf_1 NF l5_17 v11 f12 w13 g14) (h5 : ¬ (r32 < p1)) (h6 : (l4_17 < 0)) (h7 : t42 = l5_17 + 1) : gsY_X11_front_1_L17 NF p1 p2 v11 f12 w13 g14 r15 (n17 + 1) l4_17 l5_17 = gsY_X11_front_1_L17 NF p1 p2 v11 f12 w13 g14 r15 n17 l5_17 t42 := by
  subst h1 h2 h4 h7
  simp only [gsY_X11_front_1_L17, if_neg h0, if_pos h3, if_neg h5, if_pos h6]
theorem gsY_X11_front_1_q6 {NF : Nat} {p1 : Int32} {p2 : Int32} {v11 : Nat → Int32} {f12 : Nat → Nat → Int32} {w13 : Int64} {g14 : Nat → Int64} {r15 : Int32} {n17 : Nat} {l4_17 : Int32} {l5_17 : Int32} {t27 : Int32} {t28 : Int32} {r32 : Int32} {r44 : Int32} {r46 : Int32} {t51 : Int32} (h0 : ¬ (r15 < l5_17)) (h1 : t27 = r15 ^^^ (-1)) (h2 : t28 = l5_17 &&& t27) (h3 : (t28 = 0)) (h4 : r32 = gsY_X11_wideOf_1 NF l5_17 v11 f12 w13 g14) (h5 : ¬ (r32 < p1)) (h6 : ¬ (l4_17 < 0)) (h7 : r44 = gsY_X11_members_1 NF l5_17 v11 f12 w13 g14) (h8 : r46 = gsY_X11_members_1 NF l4_17 v11 f12 w13 g14) (h9 : (r46 ≤ r44)) (h10 : t51 = l5_17 + 1) : gsY_X11_front_1_L17 NF p1 p2 v11 f12 w13 g14 r15 (n17 + 1) l4_17 l5_17 = gsY_X11_front_1_L17 NF p1 p2 v11 f12 w13 g14 r15 n17 l4_17 t51 := by
  subst h1 h2 h4 h7 h8 h10
  simp only [gsY_X11_front_1_L17, if_neg h0, if_pos h3, if_neg h5, if_neg h6, if_pos h9]
theorem gsY_X11_front_1_q7 {NF : Nat} {p1 : Int32} {p2 : Int32} {v11 : Nat → Int32} {f12 : Nat → Nat → Int32} {w13 : Int64} {g14 : Nat → Int64} {r15 : Int32} {n17 : Nat} {l4_17 : Int32} {l5_17 : Int32} {t27 : Int32} {t28 : Int32} {r32 : Int32} {r44 : Int32} {r46 : Int32} {t55 : Int32} (h0 : ¬ (r15 < l5_17)) (h1 : t27 = r15 ^^^ (-1)) (h2 : t28 = l5_17 &&& t27) (h3 : (t28 = 0)) (h4 : r32 = gsY_X11_wideOf_1 NF l5_17 v11 f12 w13 g14) (h5 : ¬ (r32 < p1)) (h6 : ¬ (l4_17 < 0)) (h7 : r44 = gsY_X11_members_1 NF l5_17 v11 f12 w13 g14) (h8 : r46 = gsY_X11_members_1 NF l4_17 v11 f12 w13 g14) (h9 : ¬ (r46 ≤ r44)) (h10 : t55 = l5_17 + 1) : gsY_X11_front_1_L17 NF p1 p2 v11 f12 w13 g14 r15 (n17 + 1) l4_17 l5_17 = gsY_X11_front_1_L17 NF p1 p2 v11 f12 w13 g14 r15 n17 l5_17 t55 := by
  subst h1 h2 h4 h7 h8 h10
  simp only [gsY_X11_front_1_L17, if_neg h0, if_pos h3, if_neg h5, if_neg h6, if_neg h9]
def gsY_X11_rota_1_L19 (NF : Nat) (v : Nat → Int32) (l2_7 : Int32) (l3_7 : Int32) (l4_7 : Int32) (k7 : Int32 → Int32 → Int32 → (Nat → Int32) → (Nat → Nat → Int32) → Int64 → (Nat → Int64) → (Int32 × (Nat → Int32) × (Nat → Nat → Int32) × (Int64) × (Nat → Int64))) : Nat → (Int32) → (Nat → Int32) → (Nat → Nat → Int32) → (Int64) → (Nat → Int64) → Int32 × (Nat → Int32) × (Nat → Nat → Int32) × (Int64) × (Nat → Int64)
  | 0, _, _, _, _, _ => (0, (fun _ => 0), (fun _ _ => 0), 0, (fun _ => 0))
  | n19 + 1, l5_19, v19, f19, w19, g19 =>
    if (v 24) ≤ l5_19 then
      match gsY_X11_fittedOnes_1 NF v19 f19 w19 g19 with
      | (r22, v24, f25, w26, g27) =>
        let r28 : Int32 := gsY_X11_members_1 NF r22 v24 f25 w26 g27
        if l3_7 < r28 then
          let t33 : Int32 := l4_7 + 1
          k7 l4_7 r28 t33 v24 f25 w26 g27
        else
          let t37 : Int32 := l4_7 + 1
          k7 l2_7 l3_7 t37 v24 f25 w26 g27
    else
      let t40 : Int32 := 6 + l5_19
      let t41 : Int32 := l5_19 + l4_7
      let t42 : Int32 := t41 - t41 / (v 24) * (v 24)
      let t43 : Int32 := 6 + t42
      let t45 : Int32 := f19 23 (t43).toNatClampNeg
      let f46 : Nat → Nat → Int32 := upd2 f19 24 (upd (f19 24) t40.toNatClampNeg t45)
      let t47 : Int32 := l5_19 + 1
      gsY_X11_rota_1_L19 NF v l2_7 l3_7 l4_7 k7 n19 t47 v19 f46 w19 g19
def gsY_X11_rota_1_L7 (NF : Nat) (p1 : Int32) (v : Nat → Int32) : Nat → (Int32) → (Int32) → (Int32) → (Nat → Int32) → (Nat → Nat → Int32) → (Int64) → (Nat → Int64) → Int32 × (Nat → Int32) × (Nat → Nat → Int32) × (Int64) × (Nat → Int64)
  | 0, _, _, _, _, _, _, _ => (0, (fun _ => 0), (fun _ _ => 0), 0, (fun _ => 0))
  | n7 + 1, l2_7, l3_7, l4_7, v7, f7, w7, g7 =>
    if (v 24) ≤ l4_7 then
      if p1 = 0 then
        (l2_7, v7, f7, w7, g7)
      else
        (l3_7, v7, f7, w7, g7)
    else
      match gsY_X11_fill_1 NF v7 f7 w7 g7 with
      | (v15, f16, w17, g18) =>
        gsY_X11_rota_1_L19 NF v l2_7 l3_7 l4_7 (fun z0 z1 z2 z3 z4 z5 z6 => gsY_X11_rota_1_L7 NF p1 v n7 z0 z1 z2 z3 z4 z5 z6) (4294967296 + NF) 0 v15 f16 w17 g18
def gsY_X11_rota_1 (NF : Nat) (p1 : Int32) (v : Nat → Int32) (f : Nat → Nat → Int32) (w : Int64) (g : Nat → Int64) : Int32 × (Nat → Int32) × (Nat → Nat → Int32) × (Int64) × (Nat → Int64) :=
  if gsY_X11_isIn_1 NF p1 0 1 v f w g = 1 then
    if (v 24) = 0 then
      ((-1), v, f, w, g)
    else
      gsY_X11_rota_1_L7 NF p1 v (4294967296 + NF) 0 (-1) 0 v f w g
  else
    ((-1), v, f, w, g)
theorem gsY_X11_rota_1_q6 {NF : Nat} {p1 : Int32} {v : Nat → Int32} {f : Nat → Nat → Int32} {w : Int64} {g : Nat → Int64} (h0 : gsY_X11_isIn_1 NF p1 0 1 v f w g = 1) (h1 : ¬ ((v 24) = 0)) : gsY_X11_rota_1 NF p1 v f w g = gsY_X11_rota_1_L7 NF p1 v (4294967296 + NF) 0 (-1) 0 v f w g := by
  simp only [gsY_X11_rota_1, h0, if_neg h1, ite11, ite01, if_true, if_false]
theorem gsY_X11_rota_1_q7 {NF : Nat} {p1 : Int32} {v : Nat → Int32} {f : Nat → Nat → Int32} {w : Int64} {g : Nat → Int64} (h0 : gsY_X11_isIn_1 NF p1 0 1 v f w g = 1) (h1 : ((v 24) = 0)) : gsY_X11_rota_1 NF p1 v f w g = ((-1), v, f, w, g) := by
  simp only [gsY_X11_rota_1, h0, if_pos h1, ite11, ite01, if_true, if_false]
theorem gsY_X11_rota_1_q8 {NF : Nat} {p1 : Int32} {v : Nat → Int32} {f : Nat → Nat → Int32} {w : Int64} {g : Nat → Int64} (h0 : gsY_X11_isIn_1 NF p1 0 1 v f w g = 0) : gsY_X11_rota_1 NF p1 v f w g = ((-1), v, f, w, g) := by
  simp only [gsY_X11_rota_1, h0, ite11, ite01, if_true, if_false]
theorem gsY_X11_rota_1_q0 {NF : Nat} {p1 : Int32} {v : Nat → Int32} {n7 : Nat} {l2_7 : Int32} {l3_7 : Int32} {l4_7 : Int32} {v7 : Nat → Int32} {f7 : Nat → Nat → Int32} {w7 : Int64} {g7 : Nat → Int64} (h0 : ((v 24) ≤ l4_7)) (h1 : ¬ (p1 = 0)) : gsY_X11_rota_1_L7 NF p1 v (n7 + 1) l2_7 l3_7 l4_7 v7 f7 w7 g7 = (l3_7, v7, f7, w7, g7) := by
  simp only [gsY_X11_rota_1_L7, if_pos h0, if_neg h1]
theorem gsY_X11_rota_1_q1 {NF : Nat} {p1 : Int32} {v : Nat → Int32} {n7 : Nat} {l2_7 : Int32} {l3_7 : Int32} {l4_7 : Int32} {v7 : Nat → Int32} {f7 : Nat → Nat → Int32} {w7 : Int64} {g7 : Nat → Int64} (h0 : ((v 24) ≤ l4_7)) (h1 : (p1 = 0)) : gsY_X11_rota_1_L7 NF p1 v (n7 + 1) l2_7 l3_7 l4_7 v7 f7 w7 g7 = (l2_7, v7, f7, w7, g7) := by
  simp only [gsY_X11_rota_1_L7, if_pos h0, if_pos h1]
theorem gsY_X11_rota_1_q5 {NF : Nat} {p1 : Int32} {v : Nat → Int32} {n7 : Nat} {l2_7 : Int32} {l3_7 : Int32} {l4_7 : Int32} {v7 : Nat → Int32} {f7 : Nat → Nat → Int32} {w7 : Int64} {g7 : Nat → Int64} {v15 : Nat → Int32} {f16 : Nat → Nat → Int32} {w17 : Int64} {g18 : Nat → Int64} (h0 : ¬ ((v 24) ≤ l4_7)) (h1 : gsY_X11_fill_1 NF v7 f7 w7 g7 = (v15, f16, w17, g18)) : gsY_X11_rota_1_L7 NF p1 v (n7 + 1) l2_7 l3_7 l4_7 v7 f7 w7 g7 = gsY_X11_rota_1_L19 NF v l2_7 l3_7 l4_7 (fun z0 z1 z2 z3 z4 z5 z6 => gsY_X11_rota_1_L7 NF p1 v n7 z0 z1 z2 z3 z4 z5 z6) (4294967296 + NF) 0 v15 f16 w17 g18 := by
  simp only [gsY_X11_rota_1_L7, if_neg h0, h1]
theorem gsY_X11_rota_1_q2 {NF : Nat} {v : Nat → Int32} {l2_7 : Int32} {l3_7 : Int32} {l4_7 : Int32} {n19 : Nat} {l5_19 : Int32} {v19 : Nat → Int32} {f19 : Nat → Nat → Int32} {w19 : Int64} {g19 : Nat → Int64} {r22 : Int32} {v24 : Nat → Int32} {f25 : Nat → Nat → Int32} {w26 : Int64} {g27 : Nat → Int64} {r28 : Int32} {t33 : Int32} {k7 : Int32 → Int32 → Int32 → (Nat → Int32) → (Nat → Nat → Int32) → Int64 → (Nat → Int64) → (Int32 × (Nat → Int32) × (Nat → Nat → Int32) × (Int64) × (Nat → Int64))} (h0 : ((v 24) ≤ l5_19)) (h1 : gsY_X11_fittedOnes_1 NF v19 f19 w19 g19 = (r22, v24, f25, w26, g27)) (h2 : r28 = gsY_X11_members_1 NF r22 v24 f25 w26 g27) (h3 : (l3_7 < r28)) (h4 : t33 = l4_7 + 1) : gsY_X11_rota_1_L19 NF v l2_7 l3_7 l4_7 k7 (n19 + 1) l5_19 v19 f19 w19 g19 = k7 l4_7 r28 t33 v24 f25 w26 g27 := by
  subst h2 h4
  simp only [gsY_X11_rota_1_L19, if_pos h0, h1, if_pos h3]
theorem gsY_X11_rota_1_q3 {NF : Nat} {v : Nat → Int32} {l2_7 : Int32} {l3_7 : Int32} {l4_7 : Int32} {n19 : Nat} {l5_19 : Int32} {v19 : Nat → Int32} {f19 : Nat → Nat → Int32} {w19 : Int64} {g19 : Nat → Int64} {r22 : Int32} {v24 : Nat → Int32} {f25 : Nat → Nat → Int32} {w26 : Int64} {g27 : Nat → Int64} {r28 : Int32} {t37 : Int32} {k7 : Int32 → Int32 → Int32 → (Nat → Int32) → (Nat → Nat → Int32) → Int64 → (Nat → Int64) → (Int32 × (Nat → Int32) × (Nat → Nat → Int32) × (Int64) × (Nat → Int64))} (h0 : ((v 24) ≤ l5_19)) (h1 : gsY_X11_fittedOnes_1 NF v19 f19 w19 g19 = (r22, v24, f25, w26, g27)) (h2 : r28 = gsY_X11_members_1 NF r22 v24 f25 w26 g27) (h3 : ¬ (l3_7 < r28)) (h4 : t37 = l4_7 + 1) : gsY_X11_rota_1_L19 NF v l2_7 l3_7 l4_7 k7 (n19 + 1) l5_19 v19 f19 w19 g19 = k7 l2_7 l3_7 t37 v24 f25 w26 g27 := by
  subst h2 h4
  simp only [gsY_X11_rota_1_L19, if_pos h0, h1, if_neg h3]
theorem gsY_X11_rota_1_q4 {NF : Nat} {v : Nat → Int32} {l2_7 : Int32} {l3_7 : Int32} {l4_7 : Int32} {n19 : Nat} {l5_19 : Int32} {v19 : Nat → Int32} {f19 : Nat → Nat → Int32} {w19 : Int64} {g19 : Nat → Int64} {t40 : Int32} {t41 : Int32} {t42 : Int32} {t43 : Int32} {t45 : Int32} {f46 : Nat → Nat → Int32} {t47 : Int32} {k7 : Int32 → Int32 → Int32 → (Nat → Int32) → (Nat → Nat → Int32) → Int64 → (Nat → Int64) → (Int32 × (Nat → Int32) × (Nat → Nat → Int32) × (Int64) × (Nat → Int64))} (h0 : ¬ ((v 24) ≤ l5_19)) (h1 : t40 = 6 + l5_19) (h2 : t41 = l5_19 + l4_7) (h3 : t42 = t41 - t41 / (v 24) * (v 24)) (h4 : t43 = 6 + t42) (h5 : t45 = f19 23 (t43).toNatClampNeg) (h6 : f46 = upd2 f19 24 (upd (f19 24) t40.toNatClampNeg t45)) (h7 : t47 = l5_19 + 1) : gsY_X11_rota_1_L19 NF v l2_7 l3_7 l4_7 k7 (n19 + 1) l5_19 v19 f19 w19 g19 = gsY_X11_rota_1_L19 NF v l2_7 l3_7 l4_7 k7 n19 t47 v19 f46 w19 g19 := by
  subst h1 h2 h3 h4 h5 h6 h7
  simp only [gsY_X11_rota_1_L19, if_neg h0]
