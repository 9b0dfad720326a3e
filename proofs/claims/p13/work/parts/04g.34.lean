def gsY_X11_readMan_1 (NF : Nat) (v : Nat → Int32) (f : Nat → Nat → Int32) (w : Int64) (g : Nat → Int64) : (Nat → Int32) × (Nat → Nat → Int32) × (Int64) × (Nat → Int64) :=
  match gsY_X11_newName_1 NF 0 (v 17) v f w g with
  | (v2, f3, w4, g5) =>
    match gsY_X11_told_1 NF (1952541804 : Int64) 99 v2 f3 w4 g5 with
    | (r11, v13, f14, w15, g16) =>
      let f22 : Nat → Nat → Int32 := upd2 f14 9 (upd (f14 9) (v 17).toNatClampNeg r11)
      match gsY_X11_told_1 NF (2003395685 : Int64) 99 v13 f22 w15 g16 with
      | (r23, v25, f26, w27, g28) =>
        let f34 : Nat → Nat → Int32 := upd2 f26 10 (upd (f26 10) (v 17).toNatClampNeg r23)
        match gsY_X11_option_1 NF (444301539187 : Int64) 9 v25 f34 w27 g28 with
        | (r35, v37, f38, w39, g40) =>
          let f46 : Nat → Nat → Int32 := upd2 f38 11 (upd (f38 11) (v 17).toNatClampNeg r35)
          if (v37 1) = 0 then
            let t48 : Int32 := (v 17) + 1
            ((upd v37 17 t48), f46, w39, g40)
          else
            (v37, f46, w39, g40)
theorem gsY_X11_readMan_1_q0 {NF : Nat} {v : Nat → Int32} {f : Nat → Nat → Int32} {w : Int64} {g : Nat → Int64} {v2 : Nat → Int32} {f3 : Nat → Nat → Int32} {w4 : Int64} {g5 : Nat → Int64} {r11 : Int32} {v13 : Nat → Int32} {f14 : Nat → Nat → Int32} {w15 : Int64} {g16 : Nat → Int64} {f22 : Nat → Nat → Int32} {r23 : Int32} {v25 : Nat → Int32} {f26 : Nat → Nat → Int32} {w27 : Int64} {g28 : Nat → Int64} {f34 : Nat → Nat → Int32} {r35 : Int32} {v37 : Nat → Int32} {f38 : Nat → Nat → Int32} {w39 : Int64} {g40 : Nat → Int64} {f46 : Nat → Nat → Int32} (h0 : gsY_X11_newName_1 NF 0 (v 17) v f w g = (v2, f3, w4, g5)) (h1 : gsY_X11_told_1 NF (1952541804 : Int64) 99 v2 f3 w4 g5 = (r11, v13, f14, w15, g16)) (h2 : f22 = upd2 f14 9 (upd (f14 9) (v 17).toNatClampNeg r11)) (h3 : gsY_X11_told_1 NF (2003395685 : Int64) 99 v13 f22 w15 g16 = (r23, v25, f26, w27, g28)) (h4 : f34 = upd2 f26 10 (upd (f26 10) (v 17).toNatClampNeg r23)) (h5 : gsY_X11_option_1 NF (444301539187 : Int64) 9 v25 f34 w27 g28 = (r35, v37, f38, w39, g40)) (h6 : f46 = upd2 f38 11 (upd (f38 11) (v 17).toNatClampNeg r35)) (h7 : ¬ ((v37 1) = 0)) : gsY_X11_readMan_1 NF v f w g = (v37, f46, w39, g40) := by
  subst h2 h4 h6
  simp only [gsY_X11_readMan_1, h0, h1, h3, h5, if_neg h7]
theorem gsY_X11_readMan_1_q1 {NF : Nat} {v : Nat → Int32} {f : Nat → Nat → Int32} {w : Int64} {g : Nat → Int64} {v2 : Nat → Int32} {f3 : Nat → Nat → Int32} {w4 : Int64} {g5 : Nat → Int64} {r11 : Int32} {v13 : Nat → Int32} {f14 : Nat → Nat → Int32} {w15 : Int64} {g16 : Nat → Int64} {f22 : Nat → Nat → Int32} {r23 : Int32} {v25 : Nat → Int32} {f26 : Nat → Nat → Int32} {w27 : Int64} {g28 : Nat → Int64} {f34 : Nat → Nat → Int32} {r35 : Int32} {v37 : Nat → Int32} {f38 : Nat → Nat → Int32} {w39 : Int64} {g40 : Nat → Int64} {f46 : Nat → Nat → Int32} {t48 : Int32} (h0 : gsY_X11_newName_1 NF 0 (v 17) v f w g = (v2, f3, w4, g5)) (h1 : gsY_X11_told_1 NF (1952541804 : Int64) 99 v2 f3 w4 g5 = (r11, v13, f14, w15, g16)) (h2 : f22 = upd2 f14 9 (upd (f14 9) (v 17).toNatClampNeg r11)) (h3 : gsY_X11_told_1 NF (2003395685 : Int64) 99 v13 f22 w15 g16 = (r23, v25, f26, w27, g28)) (h4 : f34 = upd2 f26 10 (upd (f26 10) (v 17).toNatClampNeg r23)) (h5 : gsY_X11_option_1 NF (444301539187 : Int64) 9 v25 f34 w27 g28 = (r35, v37, f38, w39, g40)) (h6 : f46 = upd2 f38 11 (upd (f38 11) (v 17).toNatClampNeg r35)) (h7 : ((v37 1) = 0)) (h8 : t48 = (v 17) + 1) : gsY_X11_readMan_1 NF v f w g = ((upd v37 17 t48), f46, w39, g40) := by
  subst h2 h4 h6 h8
  simp only [gsY_X11_readMan_1, h0, h1, h3, h5, if_pos h7]
def gsY_X11_readLine_1_J8 (NF : Nat) (v : Nat → Int32) (f : Nat → Nat → Int32) (w : Int64) (g : Nat → Int64) : (Nat → Int32) × (Nat → Nat → Int32) × (Int64) × (Nat → Int64) :=
  match gsY_X11_wrong_1 NF 2 v f w g with
  | (v10, f11, w12, g13) =>
    if (v10 1) = 0 then
      if (v 5) = 59 then
        if (v10 1) = 0 then
          match gsY_X11_token_1 NF v10 f11 w12 g13 with
          | (v35, f36, w37, g38) =>
            (v35, f36, w37, g38)
        else
          (v10, f11, w12, g13)
      else
        match gsY_X11_wrong_1 NF 2 v10 f11 w12 g13 with
        | (v45, f46, w47, g48) =>
          if (v45 1) = 0 then
            match gsY_X11_token_1 NF v45 f46 w47 g48 with
            | (v57, f58, w59, g60) =>
              (v57, f58, w59, g60)
          else
            (v45, f46, w47, g48)
    else
      if (v10 1) = 0 then
        match gsY_X11_token_1 NF v10 f11 w12 g13 with
        | (v23, f24, w25, g26) =>
          (v23, f24, w25, g26)
      else
        (v10, f11, w12, g13)
def gsY_X11_readLine_1_J7 (NF : Nat) (v : Nat → Int32) (f : Nat → Nat → Int32) (w : Int64) (g : Nat → Int64) : (Nat → Int32) × (Nat → Nat → Int32) × (Int64) × (Nat → Int64) :=
  if gsY_X11_isWord_1 NF (1685217655 : Int64) v f w g = 1 then
    if (v 34) = 0 then
      match gsY_X11_told_1 NF (1685217655 : Int64) 999 (upd v 34 1) f w g with
      | (r70, v72, f73, w74, g75) =>
        if (v72 1) = 0 then
          if (v72 5) = 59 then
            if (v72 1) = 0 then
              match gsY_X11_token_1 NF (upd v72 23 r70) f73 w74 g75 with
              | (v96, f97, w98, g99) =>
                (v96, f97, w98, g99)
            else
              ((upd v72 23 r70), f73, w74, g75)
          else
            match gsY_X11_wrong_1 NF 2 (upd v72 23 r70) f73 w74 g75 with
            | (v106, f107, w108, g109) =>
              if (v106 1) = 0 then
                match gsY_X11_token_1 NF v106 f107 w108 g109 with
                | (v118, f119, w120, g121) =>
                  (v118, f119, w120, g121)
              else
                (v106, f107, w108, g109)
        else
          if (v72 1) = 0 then
            match gsY_X11_token_1 NF (upd v72 23 r70) f73 w74 g75 with
            | (v84, f85, w86, g87) =>
              (v84, f85, w86, g87)
          else
            ((upd v72 23 r70), f73, w74, g75)
    else
      gsY_X11_readLine_1_J8 NF v f w g
  else
    gsY_X11_readLine_1_J8 NF v f w g
def gsY_X11_readLine_1_J6 (NF : Nat) (v : Nat → Int32) (f : Nat → Nat → Int32) (w : Int64) (g : Nat → Int64) : (Nat → Int32) × (Nat → Nat → Int32) × (Int64) × (Nat → Int64) :=
  if gsY_X11_isWord_1 NF (1918986606 : Int64) v f w g = 1 then
    if (v 33) = 0 then
      match gsY_X11_told_1 NF (1918986606 : Int64) 100 (upd v 33 1) f w g with
      | (r131, v133, f134, w135, g136) =>
        if (v133 1) = 0 then
          if (v133 5) = 59 then
            if (v133 1) = 0 then
              match gsY_X11_token_1 NF (upd v133 22 r131) f134 w135 g136 with
              | (v157, f158, w159, g160) =>
                (v157, f158, w159, g160)
            else
              ((upd v133 22 r131), f134, w135, g136)
          else
            match gsY_X11_wrong_1 NF 2 (upd v133 22 r131) f134 w135 g136 with
            | (v167, f168, w169, g170) =>
              if (v167 1) = 0 then
                match gsY_X11_token_1 NF v167 f168 w169 g170 with
                | (v179, f180, w181, g182) =>
                  (v179, f180, w181, g182)
              else
                (v167, f168, w169, g170)
        else
          if (v133 1) = 0 then
            match gsY_X11_token_1 NF (upd v133 22 r131) f134 w135 g136 with
            | (v145, f146, w147, g148) =>
              (v145, f146, w147, g148)
          else
            ((upd v133 22 r131), f134, w135, g136)
    else
      gsY_X11_readLine_1_J7 NF v f w g
  else
    gsY_X11_readLine_1_J7 NF v f w g
def gsY_X11_readLine_1_J5 (NF : Nat) (v : Nat → Int32) (f : Nat → Nat → Int32) (w : Int64) (g : Nat → Int64) : (Nat → Int32) × (Nat → Nat → Int32) × (Int64) × (Nat → Int64) :=
  if gsY_X11_isWord_1 NF (1818848101 : Int64) v f w g = 1 then
    if (v 32) = 0 then
      match gsY_X11_told_1 NF (1818848101 : Int64) 99 (upd v 32 1) f w g with
      | (r192, v194, f195, w196, g197) =>
        if (v194 1) = 0 then
          if (v194 5) = 59 then
            if (v194 1) = 0 then
              match gsY_X11_token_1 NF (upd v194 21 r192) f195 w196 g197 with
              | (v218, f219, w220, g221) =>
                (v218, f219, w220, g221)
            else
              ((upd v194 21 r192), f195, w196, g197)
          else
            match gsY_X11_wrong_1 NF 2 (upd v194 21 r192) f195 w196 g197 with
            | (v228, f229, w230, g231) =>
              if (v228 1) = 0 then
                match gsY_X11_token_1 NF v228 f229 w230 g231 with
                | (v240, f241, w242, g243) =>
                  (v240, f241, w242, g243)
              else
                (v228, f229, w230, g231)
        else
          if (v194 1) = 0 then
            match gsY_X11_token_1 NF (upd v194 21 r192) f195 w196 g197 with
            | (v206, f207, w208, g209) =>
              (v206, f207, w208, g209)
          else
            ((upd v194 21 r192), f195, w196, g197)
    else
      gsY_X11_readLine_1_J6 NF v f w g
  else
    gsY_X11_readLine_1_J6 NF v f w g
def gsY_X11_readLine_1_J4 (NF : Nat) (v : Nat → Int32) (f : Nat → Nat → Int32) (w : Int64) (g : Nat → Int64) : (Nat → Int32) × (Nat → Nat → Int32) × (Int64) × (Nat → Int64) :=
  if gsY_X11_isWord_1 NF (1651469428 : Int64) v f w g = 1 then
    if (v 31) = 0 then
      match gsY_X11_told_1 NF (1651469428 : Int64) 999 (upd v 31 1) f w g with
      | (r253, v255, f256, w257, g258) =>
        if (v255 1) = 0 then
          if (v255 5) = 59 then
            if (v255 1) = 0 then
              match gsY_X11_token_1 NF (upd v255 20 r253) f256 w257 g258 with
              | (v279, f280, w281, g282) =>
                (v279, f280, w281, g282)
            else
              ((upd v255 20 r253), f256, w257, g258)
          else
            match gsY_X11_wrong_1 NF 2 (upd v255 20 r253) f256 w257 g258 with
            | (v289, f290, w291, g292) =>
              if (v289 1) = 0 then
                match gsY_X11_token_1 NF v289 f290 w291 g292 with
                | (v301, f302, w303, g304) =>
                  (v301, f302, w303, g304)
              else
                (v289, f290, w291, g292)
        else
          if (v255 1) = 0 then
            match gsY_X11_token_1 NF (upd v255 20 r253) f256 w257 g258 with
            | (v267, f268, w269, g270) =>
              (v267, f268, w269, g270)
          else
            ((upd v255 20 r253), f256, w257, g258)
    else
      gsY_X11_readLine_1_J5 NF v f w g
  else
    gsY_X11_readLine_1_J5 NF v f w g
def gsY_X11_readLine_1_J3 (NF : Nat) (v : Nat → Int32) (f : Nat → Nat → Int32) (w : Int64) (g : Nat → Int64) : (Nat → Int32) × (Nat → Nat → Int32) × (Int64) × (Nat → Int64) :=
  if gsY_X11_isWord_1 NF (1700885369 : Int64) v f w g = 1 then
    if (v 30) = 0 then
      match gsY_X11_told_1 NF (1700885369 : Int64) 999 (upd v 30 1) f w g with
      | (r314, v316, f317, w318, g319) =>
        if (v316 1) = 0 then
          if (v316 5) = 59 then
            if (v316 1) = 0 then
              match gsY_X11_token_1 NF (upd v316 19 r314) f317 w318 g319 with
              | (v340, f341, w342, g343) =>
                (v340, f341, w342, g343)
            else
              ((upd v316 19 r314), f317, w318, g319)
          else
            match gsY_X11_wrong_1 NF 2 (upd v316 19 r314) f317 w318 g319 with
            | (v350, f351, w352, g353) =>
              if (v350 1) = 0 then
                match gsY_X11_token_1 NF v350 f351 w352 g353 with
                | (v362, f363, w364, g365) =>
                  (v362, f363, w364, g365)
              else
                (v350, f351, w352, g353)
        else
          if (v316 1) = 0 then
            match gsY_X11_token_1 NF (upd v316 19 r314) f317 w318 g319 with
            | (v328, f329, w330, g331) =>
              (v328, f329, w330, g331)
          else
            ((upd v316 19 r314), f317, w318, g319)
    else
      gsY_X11_readLine_1_J4 NF v f w g
  else
    gsY_X11_readLine_1_J4 NF v f w g
def gsY_X11_readLine_1_J2 (NF : Nat) (v : Nat → Int32) (f : Nat → Nat → Int32) (w : Int64) (g : Nat → Int64) : (Nat → Int32) × (Nat → Nat → Int32) × (Int64) × (Nat → Int64) :=
  if gsY_X11_isWord_1 NF (6909036 : Int64) v f w g = 1 then
    if (v 15) = 0 then
      match gsY_X11_formula_1 NF v f w g with
      | (v376, f377, w378, g379) =>
        if (v376 1) = 0 then
          if (v376 5) = 59 then
            if (v376 1) = 0 then
              match gsY_X11_token_1 NF v376 f377 w378 g379 with
              | (v397, f398, w399, g400) =>
                (v397, f398, w399, g400)
            else
              (v376, f377, w378, g379)
          else
            match gsY_X11_wrong_1 NF 2 v376 f377 w378 g379 with
            | (v407, f408, w409, g410) =>
              if (v407 1) = 0 then
                match gsY_X11_token_1 NF v407 f408 w409 g410 with
                | (v419, f420, w421, g422) =>
                  (v419, f420, w421, g422)
              else
                (v407, f408, w409, g410)
        else
          if (v376 1) = 0 then
            match gsY_X11_token_1 NF v376 f377 w378 g379 with
            | (v385, f386, w387, g388) =>
              (v385, f386, w387, g388)
          else
            (v376, f377, w378, g379)
    else
      gsY_X11_readLine_1_J3 NF v f w g
  else
    gsY_X11_readLine_1_J3 NF v f w g
def gsY_X11_readLine_1_J1 (NF : Nat) (v : Nat → Int32) (f : Nat → Nat → Int32) (w : Int64) (g : Nat → Int64) : (Nat → Int32) × (Nat → Nat → Int32) × (Int64) × (Nat → Int64) :=
  if gsY_X11_isWord_1 NF (1668243828 : Int64) v f w g = 1 then
    if 6 ≤ (v 18) then
      gsY_X11_readLine_1_J2 NF v f w g
    else
      match gsY_X11_readCoat_1 NF v f w g with
      | (v433, f434, w435, g436) =>
        if (v433 1) = 0 then
          if (v433 5) = 59 then
            if (v433 1) = 0 then
              match gsY_X11_token_1 NF v433 f434 w435 g436 with
              | (v457, f458, w459, g460) =>
                (v457, f458, w459, g460)
            else
              (v433, f434, w435, g436)
          else
            match gsY_X11_wrong_1 NF 2 v433 f434 w435 g436 with
            | (v467, f468, w469, g470) =>
              if (v467 1) = 0 then
                match gsY_X11_token_1 NF v467 f468 w469 g470 with
                | (v479, f480, w481, g482) =>
                  (v479, f480, w481, g482)
              else
                (v467, f468, w469, g470)
        else
          if (v433 1) = 0 then
            match gsY_X11_token_1 NF v433 f434 w435 g436 with
            | (v445, f446, w447, g448) =>
              (v445, f446, w447, g448)
          else
            (v433, f434, w435, g436)
  else
    gsY_X11_readLine_1_J2 NF v f w g
def gsY_X11_readLine_1 (NF : Nat) (v : Nat → Int32) (f : Nat → Nat → Int32) (w : Int64) (g : Nat → Int64) : (Nat → Int32) × (Nat → Nat → Int32) × (Int64) × (Nat → Int64) :=
  if gsY_X11_isWord_1 NF (7168366 : Int64) v f w g = 1 then
    if 6 ≤ (v 17) then
      gsY_X11_readLine_1_J1 NF v f w g
    else
      match gsY_X11_readMan_1 NF v f w g with
      | (v493, f494, w495, g496) =>
        if (v493 1) = 0 then
          if (v493 5) = 59 then
            if (v493 1) = 0 then
              match gsY_X11_token_1 NF v493 f494 w495 g496 with
              | (v517, f518, w519, g520) =>
                (v517, f518, w519, g520)
            else
              (v493, f494, w495, g496)
          else
            match gsY_X11_wrong_1 NF 2 v493 f494 w495 g496 with
            | (v527, f528, w529, g530) =>
              if (v527 1) = 0 then
                match gsY_X11_token_1 NF v527 f528 w529 g530 with
                | (v539, f540, w541, g542) =>
                  (v539, f540, w541, g542)
              else
                (v527, f528, w529, g530)
        else
          if (v493 1) = 0 then
            match gsY_X11_token_1 NF v493 f494 w495 g496 with
            | (v505, f506, w507, g508) =>
              (v505, f506, w507, g508)
          else
            (v493, f494, w495, g496)
  else
    gsY_X11_readLine_1_J1 NF v f w g
theorem gsY_X11_readLine_1_q62 {NF : Nat} {v : Nat → Int32} {f : Nat → Nat → Int32} {w : Int64} {g : Nat → Int64} (h0 : gsY_X11_isWord_1 NF (7168366 : Int64) v f w g = 1) (h1 : (6 ≤ (v 17))) : gsY_X11_readLine_1 NF v f w g = gsY_X11_readLine_1_J1 NF v f w g := by
  simp only [gsY_X11_readLine_1, h0, if_pos h1, ite11, ite01, if_true, if_false]
theorem gsY_X11_readLine_1_q63 {NF : Nat} {v : Nat → Int32} {f : Nat → Nat → Int32} {w : Int64} {g : Nat → Int64} {v493 : Nat → Int32} {f494 : Nat → Nat → Int32} {w495 : Int64} {g496 : Nat → Int64} (h0 : gsY_X11_isWord_1 NF (7168366 : Int64) v f w g = 1) (h1 : ¬ (6 ≤ (v 17))) (h2 : gsY_X11_readMan_1 NF v f w g = (v493, f494, w495, g496)) (h3 : ¬ ((v493 1) = 0)) (h4 : ¬ ((v493 1) = 0)) : gsY_X11_readLine_1 NF v f w g = (v493, f494, w495, g496) := by
  simp only [gsY_X11_readLine_1, h0, if_neg h1, h2, if_neg h3, if_neg h4, ite11, ite01, if_true, if_false]
theorem gsY_X11_readLine_1_q64 {NF : Nat} {v : Nat → Int32} {f : Nat → Nat → Int32} {w : Int64} {g : Nat → Int64} {v493 : Nat → Int32} {f494 : Nat → Nat → Int32} {w495 : Int64} {g496 : Nat → Int64} {v505 : Nat → Int32} {f506 : Nat → Nat → Int32} {w507 : Int64} {g508 : Nat → Int64} (h0 : gsY_X11_isWord_1 NF (7168366 : Int64) v f w g = 1) (h1 : ¬ (6 ≤ (v 17))) (h2 : gsY_X11_readMan_1 NF v f w g = (v493, f494, w495, g496)) (h3 : ¬ ((v493 1) = 0)) (h4 : ((v493 1) = 0)) (h5 : gsY_X11_token_1 NF v493 f494 w495 g496 = (v505, f506, w507, g508)) : gsY_X11_readLine_1 NF v f w g = (v505, f506, w507, g508) := by
  exact absurd h4 h3
theorem gsY_X11_readLine_1_q65 {NF : Nat} {v : Nat → Int32} {f : Nat → Nat → Int32} {w : Int64} {g : Nat → Int64} {v493 : Nat → Int32} {f494 : Nat → Nat → Int32} {w495 : Int64} {g496 : Nat → Int64} (h0 : gsY_X11_isWord_1 NF (7168366 : Int64) v f w g = 1) (h1 : ¬ (6 ≤ (v 17))) (h2 : gsY_X11_readMan_1 NF v f w g = (v493, f494, w495, g496)) (h3 : ((v493 1) = 0)) (h4 : ((v493 5) = 59)) (h5 : ¬ ((v493 1) = 0)) : gsY_X11_readLine_1 NF v f w g = (v493, f494, w495, g496) := by
  exact absurd h3 h5
theorem gsY_X11_readLine_1_q66 {NF : Nat} {v : Nat → Int32} {f : Nat → Nat → Int32} {w : Int64} {g : Nat → Int64} {v493 : Nat → Int32} {f494 : Nat → Nat → Int32} {w495 : Int64} {g496 : Nat → Int64} {v517 : Nat → Int32} {f518 : Nat → Nat → Int32} {w519 : Int64} {g520 : Nat → Int64} (h0 : gsY_X11_isWord_1 NF (7168366 : Int64) v f w g = 1) (h1 : ¬ (6 ≤ (v 17))) (h2 : gsY_X11_readMan_1 NF v f w g = (v493, f494, w495, g496)) (h3 : ((v493 1) = 0)) (h4 : ((v493 5) = 59)) (h5 : ((v493 1) = 0)) (h6 : gsY_X11_token_1 NF v493 f494 w495 g496 = (v517, f518, w519, g520)) : gsY_X11_readLine_1 NF v f w g = (v517, f518, w519, g520) := by
  simp only [gsY_X11_readLine_1, h0, if_neg h1, h2, if_pos h3, if_pos h4, if_pos h5, h6, ite11, ite01, if_true, if_false]
theorem gsY_X11_readLine_1_q67 {NF : Nat} {v : Nat → Int32} {f : Nat → Nat → Int32} {w : Int64} {g : Nat → Int64} {v493 : Nat → Int32} {f494 : Nat → Nat → Int32} {w495 : Int64} {g496 : Nat → Int64} {v527 : Nat → Int32} {f528 : Nat → Nat → Int32} {w529 : Int64} {g530 : Nat → Int64} (h0 : gsY_X11_isWord_1 NF (7168366 : Int64) v f w g = 1) (h1 : ¬ (6 ≤ (v 17))) (h2 : gsY_X11_readMan_1 NF v f w g = (v493, f494, w495, g496)) (h3 : ((v493 1) = 0)) (h4 : ¬ ((v493 5) = 59)) (h5 : gsY_X11_wrong_1 NF 2 v493 f494 w495 g496 = (v527, f528, w529, g530)) (h6 : ¬ ((v527 1) = 0)) : gsY_X11_readLine_1 NF v f w g = (v527, f528, w529, g530) := by
  simp only [gsY_X11_readLine_1, h0, if_neg h1, h2, if_pos h3, if_neg h4, h5, if_neg h6, ite11, ite01, if_true, if_false]
theorem gsY_X11_readLine_1_q68 {NF : Nat} {v : Nat → Int32} {f : Nat → Nat → Int32} {w : Int64} {g : Nat → Int64} {v493 : Nat → Int32} {f494 : Nat → Nat → Int32} {w495 : Int64} {g496 : Nat → Int64} {v527 : Nat → Int32} {f528 : Nat → Nat → Int32} {w529 : Int64} {g530 : Nat → Int64} {v539 : Nat → Int32} {f540 : Nat → Nat → Int32} {w541 : Int64} {g542 : Nat → Int64} (h0 : gsY_X11_isWord_1 NF (7168366 : Int64) v f w g = 1) (h1 : ¬ (6 ≤ (v 17))) (h2 : gsY_X11_readMan_1 NF v f w g = (v493, f494, w495, g496)) (h3 : ((v493 1) = 0)) (h4 : ¬ ((v493 5) = 59)) (h5 : gsY_X11_wrong_1 NF 2 v493 f494 w495 g496 = (v527, f528, w529, g530)) (h6 : ((v527 1) = 0)) (h7 : gsY_X11_token_1 NF v527 f528 w529 g530 = (v539, f540, w541, g542)) : gsY_X11_readLine_1 NF v f w g = (v539, f540, w541, g542) := by
  simp only [gsY_X11_readLine_1, h0, if_neg h1, h2, if_pos h3, if_neg h4, h5, if_pos h6, h7, ite11, ite01, if_true, if_false]
theorem gsY_X11_readLine_1_q69 {NF : Nat} {v : Nat → Int32} {f : Nat → Nat → Int32} {w : Int64} {g : Nat → Int64} (h0 : gsY_X11_isWord_1 NF (7168366 : Int64) v f w g = 0) : gsY_X11_readLine_1 NF v f w g = gsY_X11_readLine_1_J1 NF v f w g := by
  simp only [gsY_X11_readLine_1, h0, ite11, ite01, if_true, if_false]
theorem gsY_X11_readLine_1_q54 {NF : Nat} {v : Nat → Int32} {f : Nat → Nat → Int32} {w : Int64} {g : Nat → Int64} (h0 : gsY_X11_isWord_1 NF (1668243828 : Int64) v f w g = 1) (h1 : (6 ≤ (v 18))) : gsY_X11_readLine_1_J1 NF v f w g = gsY_X11_readLine_1_J2 NF v f w g := by
  simp only [gsY_X11_readLine_1_J1, h0, if_pos h1, ite11, ite01, if_true, if_false]
theorem gsY_X11_readLine_1_q55 {NF : Nat} {v : Nat → Int32} {f : Nat → Nat → Int32} {w : Int64} {g : Nat → Int64} {v433 : Nat → Int32} {f434 : Nat → Nat → Int32} {w435 : Int64} {g436 : Nat → Int64} (h0 : gsY_X11_isWord_1 NF (1668243828 : Int64) v f w g = 1) (h1 : ¬ (6 ≤ (v 18))) (h2 : gsY_X11_readCoat_1 NF v f w g = (v433, f434, w435, g436)) (h3 : ¬ ((v433 1) = 0)) (h4 : ¬ ((v433 1) = 0)) : gsY_X11_readLine_1_J1 NF v f w g = (v433, f434, w435, g436) := by
  simp only [gsY_X11_readLine_1_J1, h0, if_neg h1, h2, if_neg h3, if_neg h4, ite11, ite01, if_true, if_false]
theorem gsY_X11_readLine_1_q56 {NF : Nat} {v : Nat → Int32} {f : Nat → Nat → Int32} {w : Int64} {g : Nat → Int64} {v433 : Nat → Int32} {f434 : Nat → Nat → Int32} {w435 : Int64} {g436 : Nat → Int64} {v445 : Nat → Int32} {f446 : Nat → Nat → Int32} {w447 : Int64} {g448 : Nat → Int64} (h0 : gsY_X11_isWord_1 NF (1668243828 : Int64) v f w g = 1) (h1 : ¬ (6 ≤ (v 18))) (h2 : gsY_X11_readCoat_1 NF v f w g = (v433, f434, w435, g436)) (h3 : ¬ ((v433 1) = 0)) (h4 : ((v433 1) = 0)) (h5 : gsY_X11_token_1 NF v433 f434 w435 g436 = (v445, f446, w447, g448)) : gsY_X11_readLine_1_J1 NF v f w g = (v445, f446, w447, g448) := by
  exact absurd h4 h3
theorem gsY_X11_readLine_1_q57 {NF : Nat} {v : Nat → Int32} {f : Nat → Nat → Int32} {w : Int64} {g : Nat → Int64} {v433 : Nat → Int32} {f434 : Nat → Nat → Int32} {w435 : Int64} {g436 : Nat → Int64} (h0 : gsY_X11_isWord_1 NF (1668243828 : Int64) v f w g = 1) (h1 : ¬ (6 ≤ (v 18))) (h2 : gsY_X11_readCoat_1 NF v f w g = (v433, f434, w435, g436)) (h3 : ((v433 1) = 0)) (h4 : ((v433 5) = 59)) (h5 : ¬ ((v433 1) = 0)) : gsY_X11_readLine_1_J1 NF v f w g = (v433, f434, w435, g436) := by
  exact absurd h3 h5
theorem gsY_X11_readLine_1_q58 {NF : Nat} {v : Nat → Int32} {f : Nat → Nat → Int32} {w : Int64} {g : Nat → Int64} {v433 : Nat → Int32} {f434 : Nat → Nat → Int32} {w435 : Int64} {g436 : Nat → Int64} {v457 : Nat → Int32} {f458 : Nat → Nat → Int32} {w459 : Int64} {g460 : Nat → Int64} (h0 : gsY_X11_isWord_1 NF (1668243828 : Int64) v f w g = 1) (h1 : ¬ (6 ≤ (v 18))) (h2 : gsY_X11_readCoat_1 NF v f w g = (v433, f434, w435, g436)) (h3 : ((v433 1) = 0)) (h4 : ((v433 5) = 59)) (h5 : ((v433 1) = 0)) (h6 : gsY_X11_token_1 NF v433 f434 w435 g436 = (v457, f458, w459, g460)) : gsY_X11_readLine_1_J1 NF v f w g = (v457, f458, w459, g460) := by
  simp only [gsY_X11_readLine_1_J1, h0, if_neg h1, h2, if_pos h3, if_pos h4, if_pos h5, h6, ite11, ite01, if_true, if_false]
theorem gsY_X11_readLine_1_q59 {NF : Nat} {v : Nat → Int32} {f : Nat → Nat → Int32} {w : Int64} {g : Nat → Int64} {v433 : Nat → Int32} {f434 : Nat → Nat → Int32} {w435 : Int64} {g436 : Nat → Int64} {v467 : Nat → Int32} {f468 : Nat → Nat → Int32} {w469 : Int64} {g470 : Nat → Int64} (h0 : gsY_X11_isWord_1 NF (1668243828 : Int64) v f w g = 1) (h1 : ¬ (6 ≤ (v 18))) (h2 : gsY_X11_readCoat_1 NF v f w g = (v433, f434, w435, g436)) (h3 : ((v433 1) = 0)) (h4 : ¬ ((v433 5) = 59)) (h5 : gsY_X11_wrong_1 NF 2 v433 f434 w435 g436 = (v467, f468, w469, g470)) (h6 : ¬ ((v467 1) = 0)) : gsY_X11_readLine_1_J1 NF v f w g = (v467, f468, w469, g470) := by
  simp only [gsY_X11_readLine_1_J1, h0, if_neg h1, h2, if_pos h3, if_neg h4, h5, if_neg h6, ite11, ite01, if_true, if_false]
theorem gsY_X11_readLine_1_q60 {NF : Nat} {v : Nat → Int32} {f : Nat → Nat → Int32} {w : Int64} {g : Nat → Int64} {v433 : Nat → Int32} {f434 : Nat → Nat → Int32} {w435 : Int64} {g436 : Nat → Int64} {v467 : Nat → Int32} {f468 : Nat → Nat → Int32} {w469 : Int64} {g470 : Nat → Int64} {v479 : Nat → Int32} {f480 : Nat → Nat → Int32} {w481 : Int64} {g482 : Nat → Int64} (h0 : gsY_X11_isWord_1 NF (1668243828 : Int64) v f w g = 1) (h1 : ¬ (6 ≤ (v 18))) (h2 : gsY_X11_readCoat_1 NF v f w g = (v433, f434, w435, g436)) (h3 : ((v433 1) = 0)) (h4 : ¬ ((v433 5) = 59)) (h5 : gsY_X11_wrong_1 NF 2 v433 f434 w435 g436 = (v467, f468, w469, g470)) (h6 : ((v467 1) = 0)) (h7 : gsY_X11_token_1 NF v467 f468 w469 g470 = (v479, f480, w481, g482)) : gsY_X11_readLine_1_J1 NF v f w g = (v479, f480, w481, g482) := by
  simp only [gsY_X11_readLine_1_J1, h0, if_neg h1, h2, if_pos h3, if_neg h4, h5, if_pos h6, h7, ite11, ite01, if_true, if_false]
theorem gsY_X11_readLine_1_q61 {NF : Nat} {v : Nat → Int32} {f : Nat → Nat → Int32} {w : Int64} {g : Nat → Int64} (h0 : gsY_X11_isWord_1 NF (1668243828 : Int64) v f w g = 0) : gsY_X11_readLine_1_J1 NF v f w g = gsY_X11_readLine_1_J2 NF v f w g := by
  simp only [gsY_X11_readLine_1_J1, h0, ite11, ite01, if_true, if_false]
theorem gsY_X11_readLine_1_q46 {NF : Nat} {v : Nat → Int32} {f : Nat → Nat → Int32} {w : Int64} {g : Nat → Int64} (h0 : gsY_X11_isWord_1 NF (6909036 : Int64) v f w g = 1) (h1 : ¬ ((v 15) = 0)) : gsY_X11_readLine_1_J2 NF v f w g = gsY_X11_readLine_1_J3 NF v f w g := by
  simp only [gsY_X11_readLine_1_J2, h0, if_neg h1, ite11, ite01, if_true, if_false]
theorem gsY_X11_readLine_1_q47 {NF : Nat} {v : Nat → Int32} {f : Nat → Nat → Int32} {w : Int64} {g : Nat → Int64} {v376 : Nat → Int32} {f377 : Nat → Nat → Int32} {w378 : Int64} {g379 : Nat → Int64} (h0 : gsY_X11_isWord_1 NF (6909036 : Int64) v f w g = 1) (h1 : ((v 15) = 0)) (h2 : gsY_X11_formula_1 NF v f w g = (v376, f377, w378, g379)) (h3 : ¬ ((v376 1) = 0)) (h4 : ¬ ((v376 1) = 0)) : gsY_X11_readLine_1_J2 NF v f w g = (v376, f377, w378, g379) := by
  simp only [gsY_X11_readLine_1_J2, h0, if_pos h1, h2, if_neg h3, if_neg h4, ite11, ite01, if_true, if_false]
theorem gsY_X11_readLine_1_q48 {NF : Nat} {v : Nat → Int32} {f : Nat → Nat → Int32} {w : Int64} {g : Nat → Int64} {v376 : Nat → Int32} {f377 : Nat → Nat → Int32} {w378 : Int64} {g379 : Nat → Int64} {v385 : Nat → Int32} {f386 : Nat → Nat → Int32} {w387 : Int64} {g388 : Nat → Int64} (h0 : gsY_X11_isWord_1 NF (6909036 : Int64) v f w g = 1) (h1 : ((v 15) = 0)) (h2 : gsY_X11_formula_1 NF v f w g = (v376, f377, w378, g379)) (h3 : ¬ ((v376 1) = 0)) (h4 : ((v376 1) = 0)) (h5 : gsY_X11_token_1 NF v376 f377 w378 g379 = (v385, f386, w387, g388)) : gsY_X11_readLine_1_J2 NF v f w g = (v385, f386, w387, g388) := by
  exact absurd h4 h3
theorem gsY_X11_readLine_1_q49 {NF : Nat} {v : Nat → Int32} {f : Nat → Nat → Int32} {w : Int64} {g : Nat → Int64} {v376 : Nat → Int32} {f377 : Nat → Nat → Int32} {w378 : Int64} {g379 : Nat → Int64} (h0 : gsY_X11_isWord_1 NF (6909036 : Int64) v f w g = 1) (h1 : ((v 15) = 0)) (h2 : gsY_X11_formula_1 NF v f w g = (v376, f377, w378, g379)) (h3 : ((v376 1) = 0)) (h4 : ((v376 5) = 59)) (h5 : ¬ ((v376 1) = 0)) : gsY_X11_readLine_1_J2 NF v f w g = (v376, f377, w378, g379) := by
  exact absurd h3 h5
theorem gsY_X11_readLine_1_q50 {NF : Nat} {v : Nat → Int32} {f : Nat → Nat → Int32} {w : Int64} {g : Nat → Int64} {v376 : Nat → Int32} {f377 : Nat → Nat → Int32} {w378 : Int64} {g379 : Nat → Int64} {v397 : Nat → Int32} {f398 : Nat → Nat → Int32} {w399 : Int64} {g400 : Nat → Int64} (h0 : gsY_X11_isWord_1 NF (6909036 : Int64) v f w g = 1) (h1 : ((v 15) = 0)) (h2 : gsY_X11_formula_1 NF v f w g = (v376, f377, w378, g379)) (h3 : ((v376 1) = 0)) (h4 : ((v376 5) = 59)) (h5 : ((v376 1) = 0)) (h6 : gsY_X11_token_1 NF v376 f377 w378 g379 = (v397, f398, w399, g400)) : gsY_X11_readLine_1_J2 NF v f w g = (v397, f398, w399, g400) := by
  simp only [gsY_X11_readLine_1_J2, h0, if_pos h1, h2, if_pos h3, if_pos h4, if_pos h5, h6, ite11, ite01, if_true, if_false]
theorem gsY_X11_readLine_1_q51 {NF : Nat} {v : Nat → Int32} {f : Nat → Nat → Int32} {w : Int64} {g : Nat → Int64} {v376 : Nat → Int32} {f377 : Nat → Nat → Int32} {w378 : Int64} {g379 : Nat → Int64} {v407 : Nat → Int32} {f408 : Nat → Nat → Int32} {w409 : Int64} {g410 : Nat → Int64} (h0 : gsY_X11_isWord_1 NF (6909036 : Int64) v f w g = 1) (h1 : ((v 15) = 0)) (h2 : gsY_X11_formula_1 NF v f w g = (v376, f377, w378, g379)) (h3 : ((v376 1) = 0)) (h4 : ¬ ((v376 5) = 59)) (h5 : gsY_X11_wrong_1 NF 2 v376 f377 w378 g379 = (v407, f408, w409, g410)) (h6 : ¬ ((v407 1) = 0)) : gsY_X11_readLine_1_J2 NF v f w g = (v407, f408, w409, g410) := by
  simp only [gsY_X11_readLine_1_J2, h0, if_pos h1, h2, if_pos h3, if_neg h4, h5, if_neg h6, ite11, ite01, if_true, if_false]
theorem gsY_X11_readLine_1_q52 {NF : Nat} {v : Nat → Int32} {f : Nat → Nat → Int32} {w : Int64} {g : Nat → Int64} {v376 : Nat → Int32} {f377 : Nat → Nat → Int32} {w378 : Int64} {g379 : Nat → Int64} {v407 : Nat → Int32} {f408 : Nat → Nat → Int32} {w409 : Int64} {g410 : Nat → Int64} {v419 : Nat → Int32} {f420 : Nat → Nat → Int32} {w421 : Int64} {g422 : Nat → Int64} (h0 : gsY_X11_isWord_1 NF (6909036 : Int64) v f w g = 1) (h1 : ((v 15) = 0)) (h2 : gsY_X11_formula_1 NF v f w g = (v376, f377, w378, g379)) (h3 : ((v376 1) = 0)) (h4 : ¬ ((v376 5) = 59)) (h5 : gsY_X11_wrong_1 NF 2 v376 f377 w378 g379 = (v407, f408, w409, g410)) (h6 : ((v407 1) = 0)) (h7 : gsY_X11_token_1 NF v407 f408 w409 g410 = (v419, f420, w421, g422)) : gsY_X11_readLine_1_J2 NF v f w g = (v419, f420, w421, g422) := by
  simp only [gsY_X11_readLine_1_J2, h0, if_pos h1, h2, if_pos h3, if_neg h4, h5, if_pos h6, h7, ite11, ite01, if_true, if_false]
theorem gsY_X11_readLine_1_q53 {NF : Nat} {v : Nat → Int32} {f : Nat → Nat → Int32} {w : Int64} {g : Nat → Int64} (h0 : gsY_X11_isWord_1 NF (6909036 : Int64) v f w g = 0) : gsY_X11_readLine_1_J2 NF v f w g = gsY_X11_readLine_1_J3 NF v f w g := by
  simp only [gsY_X11_readLine_1_J2, h0, ite11, ite01, if_true, if_false]
theorem gsY_X11_readLine_1_q38 {NF : Nat} {v : Nat → Int32} {f : Nat → Nat → Int32} {w : Int64} {g : Nat → Int64} (h0 : gsY_X11_isWord_1 NF (1700885369 : Int64) v f w g = 1) (h1 : ¬ ((v 30) = 0)) : gsY_X11_readLine_1_J3 NF v f w g = gsY_X11_readLine_1_J4 NF v f w g := by
  simp only [gsY_X11_readLine_1_J3, h0, if_neg h1, ite11, ite01, if_true, if_false]
theorem gsY_X11_readLine_1_q39 {NF : Nat} {v : Nat → Int32} {f : Nat → Nat → Int32} {w : Int64} {g : Nat → Int64} {r314 : Int32} {v316 : Nat → Int32} {f317 : Nat → Nat → Int32} {w318 : Int64} {g319 : Nat → Int64} (h0 : gsY_X11_isWord_1 NF (1700885369 : Int64) v f w g = 1) (h1 : ((v 30) = 0)) (h2 : gsY_X11_told_1 NF (1700885369 : Int64) 999 (upd v 30 1) f w g = (r314, v316, f317, w318, g319)) (h3 : ¬ ((v316 1) = 0)) (h4 : ¬ ((v316 1) = 0)) : gsY_X11_readLine_1_J3 NF v f w g = ((upd v316 19 r314), f317, w318, g319) := by
  simp only [gsY_X11_readLine_1_J3, h0, if_pos h1, h2, if_neg h3, if_neg h4, ite11, ite01, if_true, if_false]
theorem gsY_X11_readLine_1_q40 {NF : Nat} {v : Nat → Int32} {f : Nat → Nat → Int32} {w : Int64} {g : Nat → Int64} {r314 : Int32} {v316 : Nat → Int32} {f317 : Nat → Nat → Int32} {w318 : Int64} {g319 : Nat → Int64} {v328 : Nat → Int32} {f329 : Nat → Nat → Int32} {w330 : Int64} {g331 : Nat → Int64} (h0 : gsY_X11_isWord_1 NF (1700885369 : Int64) v f w g = 1) (h1 : ((v 30) = 0)) (h2 : gsY_X11_told_1 NF (1700885369 : Int64) 999 (upd v 30 1) f w g = (r314, v316, f317, w318, g319)) (h3 : ¬ ((v316 1) = 0)) (h4 : ((v316 1) = 0)) (h5 : gsY_X11_token_1 NF (upd v316 19 r314) f317 w318 g319 = (v328, f329, w330, g331)) : gsY_X11_readLine_1_J3 NF v f w g = (v328, f329, w330, g331) := by
  exact absurd h4 h3
theorem gsY_X11_readLine_1_q41 {NF : Nat} {v : Nat → Int32} {f : Nat → Nat → Int32} {w : Int64} {g : Nat → Int64} {r314 : Int32} {v316 : Nat → Int32} {f317 : Nat → Nat → Int32} {w318 : Int64} {g319 : Nat → Int64} (h0 : gsY_X11_isWord_1 NF (1700885369 : Int64) v f w g = 1) (h1 : ((v 30) = 0)) (h2 : gsY_X11_told_1 NF (1700885369 : Int64) 999 (upd v 30 1) f w g = (r314, v316, f317, w318, g319)) (h3 : ((v316 1) = 0)) (h4 : ((v316 5) = 59)) (h5 : ¬ ((v316 1) = 0)) : gsY_X11_readLine_1_J3 NF v f w g = ((upd v316 19 r314), f317, w318, g319) := by
  exact absurd h3 h5
theorem gsY_X11_readLine_1_q42 {NF : Nat} {v : Nat → Int32} {f : Nat → Nat → Int32} {w : Int64} {g : Nat → Int64} {r314 : Int32} {v316 : Nat → Int32} {f317 : Nat → Nat → Int32} {w318 : Int64} {g319 : Nat → Int64} {v340 : Nat → Int32} {f341 : Nat → Nat → Int32} {w342 : Int64} {g343 : Nat → Int64} (h0 : gsY_X11_isWord_1 NF (1700885369 : Int64) v f w g = 1) (h1 : ((v 30) = 0)) (h2 : gsY_X11_told_1 NF (1700885369 : Int64) 999 (upd v 30 1) f w g = (r314, v316, f317, w318, g319)) (h3 : ((v316 1) = 0)) (h4 : ((v316 5) = 59)) (h5 : ((v316 1) = 0)) (h6 : gsY_X11_token_1 NF (upd v316 19 r314) f317 w318 g319 = (v340, f341, w342, g343)) : gsY_X11_readLine_1_J3 NF v f w g = (v340, f341, w342, g343) := by
  simp only [gsY_X11_readLine_1_J3, h0, if_pos h1, h2, if_pos h3, if_pos h4, if_pos h5, h6, ite11, ite01, if_true, if_false]
theorem gsY_X11_readLine_1_q43 {NF : Nat} {v : Nat → Int32} {f : Nat → Nat → Int32} {w : Int64} {g : Nat → Int64} {r314 : Int32} {v316 : Nat → Int32} {f317 : Nat → Nat → Int32} {w318 : Int64} {g319 : Nat → Int64} {v350 : Nat → Int32} {f351 : Nat → Nat → Int32} {w352 : Int64} {g353 : Nat → Int64} (h0 : gsY_X11_isWord_1 NF (1700885369 : Int64) v f w g = 1) (h1 : ((v 30) = 0)) (h2 : gsY_X11_told_1 NF (1700885369 : Int64) 999 (upd v 30 1) f w g = (r314, v316, f317, w318, g319)) (h3 : ((v316 1) = 0)) (h4 : ¬ ((v316 5) = 59)) (h5 : gsY_X11_wrong_1 NF 2 (upd v316 19 r314) f317 w318 g319 = (v350, f351, w352, g353)) (h6 : ¬ ((v350 1) = 0)) : gsY_X11_readLine_1_J3 NF v f w g = (v350, f351, w352, g353) := by
  simp only [gsY_X11_readLine_1_J3, h0, if_pos h1, h2, if_pos h3, if_neg h4, h5, if_neg h6, ite11, ite01, if_true, if_false]
theorem gsY_X11_readLine_1_q44 {NF : Nat} {v : Nat → Int32} {f : Nat → Nat → Int32} {w : Int64} {g : Nat → Int64} {r314 : Int32} {v316 : Nat → Int32} {f317 : Nat → Nat → Int32} {w318 : Int64} {g319 : Nat → Int64} {v350 : Nat → Int32} {f351 : Nat → Nat → Int32} {w352 : Int64} {g353 : Nat → Int64} {v362 : Nat → Int32} {f363 : Nat → Nat → Int32} {w364 : Int64} {g365 : Nat → Int64} (h0 : gsY_X11_isWord_1 NF (1700885369 : Int64) v f w g = 1) (h1 : ((v 30) = 0)) (h2 : gsY_X11_told_1 NF (1700885369 : Int64) 999 (upd v 30 1) f w g = (r314, v316, f317, w318, g319)) (h3 : ((v316 1) = 0)) (h4 : ¬ ((v316 5) = 59)) (h5 : gsY_X11_wrong_1 NF 2 (upd v316 19 r314) f317 w318 g319 = (v350, f351, w352, g353)) (h6 : ((v350 1) = 0)) (h7 : gsY_X11_token_1 NF v350 f351 w352 g353 = (v362, f363, w364, g365)) : gsY_X11_readLine_1_J3 NF v f w g = (v362, f363, w364, g365) := by
  simp only [gsY_X11_readLine_1_J3, h0, if_pos h1, h2, if_pos h3, if_neg h4, h5, if_pos h6, h7, ite11, ite01, if_true, if_false]
theorem gsY_X11_readLine_1_q45 {NF : Nat} {v : Nat → Int32} {f : Nat → Nat → Int32} {w : Int64} {g : Nat → Int64} (h0 : gsY_X11_isWord_1 NF (1700885369 : Int64) v f w g = 0) : gsY_X11_readLine_1_J3 NF v f w g = gsY_X11_readLine_1_J4 NF v f w g := by
  simp only [gsY_X11_readLine_1_J3, h0, ite11, ite01, if_true, if_false]
theorem gsY_X11_readLine_1_q30 {NF : Nat} {v : Nat → Int32} {f : Nat → Nat → Int32} {w : Int64} {g : Nat → Int64} (h0 : gsY_X11_isWord_1 NF (1651469428 : Int64) v f w g = 1) (h1 : ¬ ((v 31) = 0)) : gsY_X11_readLine_1_J4 NF v f w g = gsY_X11_readLine_1_J5 NF v f w g := by
  simp only [gsY_X11_readLine_1_J4, h0, if_neg h1, ite11, ite01, if_true, if_false]
theorem gsY_X11_readLine_1_q31 {NF : Nat} {v : Nat → Int32} {f : Nat → Nat → Int32} {w : Int64} {g : Nat → Int64} {r253 : Int32} {v255 : Nat → Int32} {f256 : Nat → Nat → Int32} {w257 : Int64} {g258 : Nat → Int64} (h0 : gsY_X11_isWord_1 NF (1651469428 : Int64) v f w g = 1) (h1 : ((v 31) = 0)) (h2 : gsY_X11_told_1 NF (1651469428 : Int64) 999 (upd v 31 1) f w g = (r253, v255, f256, w257, g258)) (h3 : ¬ ((v255 1) = 0)) (h4 : ¬ ((v255 1) = 0)) : gsY_X11_readLine_1_J4 NF v f w g = ((upd v255 20 r253), f256, w257, g258) := by
  simp only [gsY_X11_readLine_1_J4, h0, if_pos h1, h2, if_neg h3, if_neg h4, ite11, ite01, if_true, if_false]
theorem gsY_X11_readLine_1_q32 {NF : Nat} {v : Nat → Int32} {f : Nat → Nat → Int32} {w : Int64} {g : Nat → Int64} {r253 : Int32} {v255 : Nat → Int32} {f256 : Nat → Nat → Int32} {w257 : Int64} {g258 : Nat → Int64} {v267 : Nat → Int32} {f268 : Nat → Nat → Int32} {w269 : Int64} {g270 : Nat → Int64} (h0 : gsY_X11_isWord_1 NF (1651469428 : Int64) v f w g = 1) (h1 : ((v 31) = 0)) (h2 : gsY_X11_told_1 NF (1651469428 : Int64) 999 (upd v 31 1) f w g = (r253, v255, f256, w257, g258)) (h3 : ¬ ((v255 1) = 0)) (h4 : ((v255 1) = 0)) (h5 : gsY_X11_token_1 NF (upd v255 20 r253) f256 w257 g258 = (v267, f268, w269, g270)) : gsY_X11_readLine_1_J4 NF v f w g = (v267, f268, w269, g270) := by
  exact absurd h4 h3
theorem gsY_X11_readLine_1_q33 {NF : Nat} {v : Nat → Int32} {f : Nat → Nat → Int32} {w : Int64} {g : Nat → Int64} {r253 : Int32} {v255 : Nat → Int32} {f256 : Nat → Nat → Int32} {w257 : Int64} {g258 : Nat → Int64} (h0 : gsY_X11_isWord_1 NF (1651469428 : Int64) v f w g = 1) (h1 : ((v 31) = 0)) (h2 : gsY_X11_told_1 NF (1651469428 : Int64) 999 (upd v 31 1) f w g = (r253, v255, f256, w257, g258)) (h3 : ((v255 1) = 0)) (h4 : ((v255 5) = 59)) (h5 : ¬ ((v255 1) = 0)) : gsY_X11_readLine_1_J4 NF v f w g = ((upd v255 20 r253), f256, w257, g258) := by
  exact absurd h3 h5
theorem gsY_X11_readLine_1_q34 {NF : Nat} {v : Nat → Int32} {f : Nat → Nat → Int32} {w : Int64} {g : Nat → Int64} {r253 : Int32} {v255 : Nat → Int32} {f256 : Nat → Nat → Int32} {w257 : Int64} {g258 : Nat → Int64} {v279 : Nat → Int32} {f280 : Nat → Nat → Int32} {w281 : Int64} {g282 : Nat → Int64} (h0 : gsY_X11_isWord_1 NF (1651469428 : Int64) v f w g = 1) (h1 : ((v 31) = 0)) (h2 : gsY_X11_told_1 NF (1651469428 : Int64) 999 (upd v 31 1) f w g = (r253, v255, f256, w257, g258)) (h3 : ((v255 1) = 0)) (h4 : ((v255 5) = 59)) (h5 : ((v255 1) = 0)) (h6 : gsY_X11_token_1 NF (upd v255 20 r253) f256 w257 g258 = (v279, f280, w281, g282)) : gsY_X11_readLine_1_J4 NF v f w g = (v279, f280, w281, g282) := by
  simp only [gsY_X11_readLine_1_J4, h0, if_pos h1, h2, if_pos h3, if_pos h4, if_pos h5, h6, ite11, ite01, if_true, if_false]
theorem gsY_X11_readLine_1_q35 {NF : Nat} {v : Nat → Int32} {f : Nat → Nat → Int32} {w : Int64} {g : Nat → Int64} {r253 : Int32} {v255 : Nat → Int32} {f256 : Nat → Nat → Int32} {w257 : Int64} {g258 : Nat → Int64} {v289 : Nat → Int32} {f290 : Nat → Nat → Int32} {w291 : Int64} {g292 : Nat → Int64} (h0 : gsY_X11_isWord_1 NF (1651469428 : Int64) v f w g = 1) (h1 : ((v 31) = 0)) (h2 : gsY_X11_told_1 NF (1651469428 : Int64) 999 (upd v 31 1) f w g = (r253, v255, f256, w257, g258)) (h3 : ((v255 1) = 0)) (h4 : ¬ ((v255 5) = 59)) (h5 : gsY_X11_wrong_1 NF 2 (upd v255 20 r253) f256 w257 g258 = (v289, f290, w291, g292)) (h6 : ¬ ((v289 1) = 0)) : gsY_X11_readLine_1_J4 NF v f w g = (v289, f290, w291, g292) := by
  simp only [gsY_X11_readLine_1_J4, h0, if_pos h1, h2, if_pos h3, if_neg h4, h5, if_neg h6, ite11, ite01, if_true, if_false]
theorem gsY_X11_readLine_1_q36 {NF : Nat} {v : Nat → Int32} {f : Nat → Nat → Int32} {w : Int64} {g : Nat → Int64} {r253 : Int32} {v255 : Nat → Int32} {f256 : Nat → Nat → Int32} {w257 : Int64} {g258 : Nat → Int64} {v289 : Nat → Int32} {f290 : Nat → Nat → Int32} {w291 : Int64} {g292 : Nat → Int64} {v301 : Nat → Int32} {f302 : Nat → Nat → Int32} {w303 : Int64} {g304 : Nat → Int64} (h0 : gsY_X11_isWord_1 NF (1651469428 : Int64) v f w g = 1) (h1 : ((v 31) = 0)) (h2 : gsY_X11_told_1 NF (1651469428 : Int64) 999 (upd v 31 1) f w g = (r253, v255, f256, w257, g258)) (h3 : ((v255 1) = 0)) (h4 : ¬ ((v255 5) = 59)) (h5 : gsY_X11_wrong_1 NF 2 (upd v255 20 r253) f256 w257 g258 = (v289, f290, w291, g292)) (h6 : ((v289 1) = 0)) (h7 : gsY_X11_token_1 NF v289 f290 w291 g292 = (v301, f302, w303, g304)) : gsY_X11_readLine_1_J4 NF v f w g = (v301, f302, w303, g304) := by
  simp only [gsY_X11_readLine_1_J4, h0, if_pos h1, h2, if_pos h3, if_neg h4, h5, if_pos h6, h7, ite11, ite01, if_true, if_false]
theorem gsY_X11_readLine_1_q37 {NF : Nat} {v : Nat → Int32} {f : Nat → Nat → Int32} {w : Int64} {g : Nat → Int64} (h0 : gsY_X11_isWord_1 NF (1651469428 : Int64) v f w g = 0) : gsY_X11_readLine_1_J4 NF v f w g = gsY_X11_readLine_1_J5 NF v f w g := by
  simp only [gsY_X11_readLine_1_J4, h0, ite11, ite01, if_true, if_false]
theorem gsY_X11_readLine_1_q22 {NF : Nat} {v : Nat → Int32} {f : Nat → Nat → Int32} {w : Int64} {g : Nat → Int64} (h0 : gsY_X11_isWord_1 NF (1818848101 : Int64) v f w g = 1) (h1 : ¬ ((v 32) = 0)) : gsY_X11_readLine_1_J5 NF v f w g = gsY_X11_readLine_1_J6 NF v f w g := by
  simp only [gsY_X11_readLine_1_J5, h0, if_neg h1, ite11, ite01, if_true, if_false]
theorem gsY_X11_readLine_1_q23 {NF : Nat} {v : Nat → Int32} {f : Nat → Nat → Int32} {w : Int64} {g : Nat → Int64} {r192 : Int32} {v194 : Nat → Int32} {f195 : Nat → Nat → Int32} {w196 : Int64} {g197 : Nat → Int64} (h0 : gsY_X11_isWord_1 NF (1818848101 : Int64) v f w g = 1) (h1 : ((v 32) = 0)) (h2 : gsY_X11_told_1 NF (1818848101 : Int64) 99 (upd v 32 1) f w g = (r192, v194, f195, w196, g197)) (h3 : ¬ ((v194 1) = 0)) (h4 : ¬ ((v194 1) = 0)) : gsY_X11_readLine_1_J5 NF v f w g = ((upd v194 21 r192), f195, w196, g197) := by
  simp only [gsY_X11_readLine_1_J5, h0, if_pos h1, h2, if_neg h3, if_neg h4, ite11, ite01, if_true, if_false]
theorem gsY_X11_readLine_1_q24 {NF : Nat} {v : Nat → Int32} {f : Nat → Nat → Int32} {w : Int64} {g : Nat → Int64} {r192 : Int32} {v194 : Nat → Int32} {f195 : Nat → Nat → Int32} {w196 : Int64} {g197 : Nat → Int64} {v206 : Nat → Int32} {f207 : Nat → Nat → Int32} {w208 : Int64} {g209 : Nat → Int64} (h0 : gsY_X11_isWord_1 NF (1818848101 : Int64) v f w g = 1) (h1 : ((v 32) = 0)) (h2 : gsY_X11_told_1 NF (1818848101 : Int64) 99 (upd v 32 1) f w g = (r192, v194, f195, w196, g197)) (h3 : ¬ ((v194 1) = 0)) (h4 : ((v194 1) = 0)) (h5 : gsY_X11_token_1 NF (upd v194 21 r192) f195 w196 g197 = (v206, f207, w208, g209)) : gsY_X11_readLine_1_J5 NF v f w g = (v206, f207, w208, g209) := by
  exact absurd h4 h3
theorem gsY_X11_readLine_1_q25 {NF : Nat} {v : Nat → Int32} {f : Nat → Nat → Int32} {w : Int64} {g : Nat → Int64} {r192 : Int32} {v194 : Nat → Int32} {f195 : Nat → Nat → Int32} {w196 : Int64} {g197 : Nat → Int64} (h0 : gsY_X11_isWord_1 NF (1818848101 : Int64) v f w g = 1) (h1 : ((v 32) = 0)) (h2 : gsY_X11_told_1 NF (1818848101 : Int64) 99 (upd v 32 1) f w g = (r192, v194, f195, w196, g197)) (h3 : ((v194 1) = 0)) (h4 : ((v194 5) = 59)) (h5 : ¬ ((v194 1) = 0)) : gsY_X11_readLine_1_J5 NF v f w g = ((upd v194 21 r192), f195, w196, g197) := by
  exact absurd h3 h5
theorem gsY_X11_readLine_1_q26 {NF : Nat} {v : Nat → Int32} {f : Nat → Nat → Int32} {w : Int64} {g : Nat → Int64} {r192 : Int32} {v194 : Nat → Int32} {f195 : Nat → Nat → Int32} {w196 : Int64} {g197 : Nat → Int64} {v218 : Nat → Int32} {f219 : Nat → Nat → Int32} {w220 : Int64} {g221 : Nat → Int64} (h0 : gsY_X11_isWord_1 NF (1818848101 : Int64) v f w g = 1) (h1 : ((v 32) = 0)) (h2 : gsY_X11_told_1 NF (1818848101 : Int64) 99 (upd v 32 1) f w g = (r192, v194, f195, w196, g197)) (h3 : ((v194 1) = 0)) (h4 : ((v194 5) = 59)) (h5 : ((v194 1) = 0)) (h6 : gsY_X11_token_1 NF (upd v194 21 r192) f195 w196 g197 = (v218, f219, w220, g221)) : gsY_X11_readLine_1_J5 NF v f w g = (v218, f219, w220, g221) := by
  simp only [gsY_X11_readLine_1_J5, h0, if_pos h1, h2, if_pos h3, if_pos h4, if_pos h5, h6, ite11, ite01, if_true, if_false]
theorem gsY_X11_readLine_1_q27 {NF : Nat} {v : Nat → Int32} {f : Nat → Nat → Int32} {w : Int64} {g : Nat → Int64} {r192 : Int32} {v194 : Nat → Int32} {f195 : Nat → Nat → Int32} {w196 : Int64} {g197 : Nat → Int64} {v228 : Nat → Int32} {f229 : Nat → Nat → Int32} {w230 : Int64} {g231 : Nat → Int64} (h0 : gsY_X11_isWord_1 NF (1818848101 : Int64) v f w g = 1) (h1 : ((v 32) = 0)) (h2 : gsY_X11_told_1 NF (1818848101 : Int64) 99 (upd v 32 1) f w g = (r192, v194, f195, w196, g197)) (h3 : ((v194 1) = 0)) (h4 : ¬ ((v194 5) = 59)) (h5 : gsY_X11_wrong_1 NF 2 (upd v194 21 r192) f195 w196 g197 = (v228, f229, w230, g231)) (h6 : ¬ ((v228 1) = 0)) : gsY_X11_readLine_1_J5 NF v f w g = (v228, f229, w230, g231) := by
  simp only [gsY_X11_readLine_1_J5, h0, if_pos h1, h2, if_pos h3, if_neg h4, h5, if_neg h6, ite11, ite01, if_true, if_false]
theorem gsY_X11_readLine_1_q28 {NF : Nat} {v : Nat → Int32} {f : Nat → Nat → Int32} {w : Int64} {g : Nat → Int64} {r192 : Int32} {v194 : Nat → Int32} {f195 : Nat → Nat → Int32} {w196 : Int64} {g197 : Nat → Int64} {v228 : Nat → Int32} {f229 : Nat → Nat → Int32} {w230 : Int64} {g231 : Nat → Int64} {v240 : Nat → Int32} {f241 : Nat → Nat → Int32} {w242 : Int64} {g243 : Nat → Int64} (h0 : gsY_X11_isWord_1 NF (1818848101 : Int64) v f w g = 1) (h1 : ((v 32) = 0)) (h2 : gsY_X11_told_1 NF (1818848101 : Int64) 99 (upd v 32 1) f w g = (r192, v194, f195, w196, g197)) (h3 : ((v194 1) = 0)) (h4 : ¬ ((v194 5) = 59)) (h5 : gsY_X11_wrong_1 NF 2 (upd v194 21 r192) f195 w196 g197 = (v228, f229, w230, g231)) (h6 : ((v228 1) = 0)) (h7 : gsY_X11_token_1 NF v228 f229 w230 g231 = (v240, f241, w242, g243)) : gsY_X11_readLine_1_J5 NF v f w g = (v240, f241, w242, g243) := by
  simp only [gsY_X11_readLine_1_J5, h0, if_pos h1, h2, if_pos h3, if_neg h4, h5, if_pos h6, h7, ite11, ite01, if_true, if_false]
theorem gsY_X11_readLine_1_q29 {NF : Nat} {v : Nat → Int32} {f : Nat → Nat → Int32} {w : Int64} {g : Nat → Int64} (h0 : gsY_X11_isWord_1 NF (1818848101 : Int64) v f w g = 0) : gsY_X11_readLine_1_J5 NF v f w g = gsY_X11_readLine_1_J6 NF v f w g := by
  simp only [gsY_X11_readLine_1_J5, h0, ite11, ite01, if_true, if_false]
theorem gsY_X11_readLine_1_q14 {NF : Nat} {v : Nat → Int32} {f : Nat → Nat → Int32} {w : Int64} {g : Nat → Int64} (h0 : gsY_X11_isWord_1 NF (1918986606 : Int64) v f w g = 1) (h1 : ¬ ((v 33) = 0)) : gsY_X11_readLine_1_J6 NF v f w g = gsY_X11_readLine_1_J7 NF v f w g := by
  simp only [gsY_X11_readLine_1_J6, h0, if_neg h1, ite11, ite01, if_true, if_false]
theorem gsY_X11_readLine_1_q15 {NF : Nat} {v : Nat → Int32} {f : Nat → Nat → Int32} {w : Int64} {g : Nat → Int64} {r131 : Int32} {v133 : Nat → Int32} {f134 : Nat → Nat → Int32} {w135 : Int64} {g136 : Nat → Int64} (h0 : gsY_X11_isWord_1 NF (1918986606 : Int64) v f w g = 1) (h1 : ((v 33) = 0)) (h2 : gsY_X11_told_1 NF (1918986606 : Int64) 100 (upd v 33 1) f w g = (r131, v133, f134, w135, g136)) (h3 : ¬ ((v133 1) = 0)) (h4 : ¬ ((v133 1) = 0)) : gsY_X11_readLine_1_J6 NF v f w g = ((upd v133 22 r131), f134, w135, g136) := by
  simp only [gsY_X11_readLine_1_J6, h0, if_pos h1, h2, if_neg h3, if_neg h4, ite11, ite01, if_true, if_false]
theorem gsY_X11_readLine_1_q16 {NF : Nat} {v : Nat → Int32} {f : Nat → Nat → Int32} {w : Int64} {g : Nat → Int64} {r131 : Int32} {v133 : Nat → Int32} {f134 : Nat → Nat → Int32} {w135 : Int64} {g136 : Nat → Int64} {v145 : Nat → Int32} {f146 : Nat → Nat → Int32} {w147 : Int64} {g148 : Nat → Int64} (h0 : gsY_X11_isWord_1 NF (1918986606 : Int64) v f w g = 1) (h1 : ((v 33) = 0)) (h2 : gsY_X11_told_1 NF (1918986606 : Int64) 100 (upd v 33 1) f w g = (r131, v133, f134, w135, g136)) (h3 : ¬ ((v133 1) = 0)) (h4 : ((v133 1) = 0)) (h5 : gsY_X11_token_1 NF (upd v133 22 r131) f134 w135 g136 = (v145, f146, w147, g148)) : gsY_X11_readLine_1_J6 NF v f w g = (v145, f146, w147, g148) := by
  exact absurd h4 h3
theorem gsY_X11_readLine_1_q17 {NF : Nat} {v : Nat → Int32} {f : Nat → Nat → Int32} {w : Int64} {g : Nat → Int64} {r131 : Int32} {v133 : Nat → Int32} {f134 : Nat → Nat → Int32} {w135 : Int64} {g136 : Nat → Int64} (h0 : gsY_X11_isWord_1 NF (1918986606 : Int64) v f w g = 1) (h1 : ((v 33) = 0)) (h2 : gsY_X11_told_1 NF (1918986606 : Int64) 100 (upd v 33 1) f w g = (r131, v133, f134, w135, g136)) (h3 : ((v133 1) = 0)) (h4 : ((v133 5) = 59)) (h5 : ¬ ((v133 1) = 0)) : gsY_X11_readLine_1_J6 NF v f w g = ((upd v133 22 r131), f134, w135, g136) := by
  exact absurd h3 h5
theorem gsY_X11_readLine_1_q18 {NF : Nat} {v : Nat → Int32} {f : Nat → Nat → Int32} {w : Int64} {g : Nat → Int64} {r131 : Int32} {v133 : Nat → Int32} {f134 : Nat → Nat → Int32} {w135 : Int64} {g136 : Nat → Int64} {v157 : Nat → Int32} {f158 : Nat → Nat → Int32} {w159 : Int64} {g160 : Nat → Int64} (h0 : gsY_X11_isWord_1 NF (1918986606 : Int64) v f w g = 1) (h1 : ((v 33) = 0)) (h2 : gsY_X11_told_1 NF (1918986606 : Int64) 100 (upd v 33 1) f w g = (r131, v133, f134, w135, g136)) (h3 : ((v133 1) = 0)) (h4 : ((v133 5) = 59)) (h5 : ((v133 1) = 0)) (h6 : gsY_X11_token_1 NF (upd v133 22 r131) f134 w135 g136 = (v157, f158, w159, g160)) : gsY_X11_readLine_1_J6 NF v f w g = (v157, f158, w159, g160) := by
  simp only [gsY_X11_readLine_1_J6, h0, if_pos h1, h2, if_pos h3, if_pos h4, if_pos h5, h6, ite11, ite01, if_true, if_false]
theorem gsY_X11_readLine_1_q19 {NF : Nat} {v : Nat → Int32} {f : Nat → Nat → Int32} {w : Int64} {g : Nat → Int64} {r131 : Int32} {v133 : Nat → Int32} {f134 : Nat → Nat → Int32} {w135 : Int64} {g136 : Nat → Int64} {v167 : Nat → Int32} {f168 : Nat → Nat → Int32} {w169 : Int64} {g170 : Nat → Int64} (h0 : gsY_X11_isWord_1 NF (1918986606 : Int64) v f w g = 1) (h1 : ((v 33) = 0)) (h2 : gsY_X11_told_1 NF (1918986606 : Int64) 100 (upd v 33 1) f w g = (r131, v133, f134, w135, g136)) (h3 : ((v133 1) = 0)) (h4 : ¬ ((v133 5) = 59)) (h5 : gsY_X11_wrong_1 NF 2 (upd v133 22 r131) f134 w135 g136 = (v167, f168, w169, g170)) (h6 : ¬ ((v167 1) = 0)) : gsY_X11_readLine_1_J6 NF v f w g = (v167, f168, w169, g170) := by
  simp only [gsY_X11_readLine_1_J6, h0, if_pos h1, h2, if_pos h3, if_neg h4, h5, if_neg h6, ite11, ite01, if_true, if_false]
theorem gsY_X11_readLine_1_q20 {NF : Nat} {v : Nat → Int32} {f : Nat → Nat → Int32} {w : Int64} {g : Nat → Int64} {r131 : Int32} {v133 : Nat → Int32} {f134 : Nat → Nat → Int32} {w135 : Int64} {g136 : Nat → Int64} {v167 : Nat → Int32} {f168 : Nat → Nat → Int32} {w169 : Int64} {g170 : Nat → Int64} {v179 : Nat → Int32} {f180 : Nat → Nat → Int32} {w181 : Int64} {g182 : Nat → Int64} (h0 : gsY_X11_isWord_1 NF (1918986606 : Int64) v f w g = 1) (h1 : ((v 33) = 0)) (h2 : gsY_X11_told_1 NF (1918986606 : Int64) 100 (upd v 33 1) f w g = (r131, v133, f134, w135, g136)) (h3 : ((v133 1) = 0)) (h4 : ¬ ((v133 5) = 59)) (h5 : gsY_X11_wrong_1 NF 2 (upd v133 22 r131) f134 w135 g136 = (v167, f168, w169, g170)) (h6 : ((v167 1) = 0)) (h7 : gsY_X11_token_1 NF v167 f168 w169 g170 = (v179, f180, w181, g182)) : gsY_X11_readLine_1_J6 NF v f w g = (v179, f180, w181, g182) := by
  simp only [gsY_X11_readLine_1_J6, h0, if_pos h1, h2, if_pos h3, if_neg h4, h5, if_pos h6, h7, ite11, ite01, if_true, if_false]
theorem gsY_X11_readLine_1_q21 {NF : Nat} {v : Nat → Int32} {f : Nat → Nat → Int32} {w : Int64} {g : Nat → Int64} (h0 : gsY_X11_isWord_1 NF (1918986606 : Int64) v f w g = 0) : gsY_X11_readLine_1_J6 NF v f w g = gsY_X11_readLine_1_J7 NF v f w g := by
  simp only [gsY_X11_readLine_1_J6, h0, ite11, ite01, if_true, if_false]
theorem gsY_X11_readLine_1_q6 {NF : Nat} {v : Nat → Int32} {f : Nat → Nat → Int32} {w : Int64} {g : Nat → Int64} (h0 : gsY_X11_isWord_1 NF (1685217655 : Int64) v f w g = 1) (h1 : ¬ ((v 34) = 0)) : gsY_X11_readLine_1_J7 NF v f w g = gsY_X11_readLine_1_J8 NF v f w g := by
  simp only [gsY_X11_readLine_1_J7, h0, if_neg h1, ite11, ite01, if_true, if_false]
theorem gsY_X11_readLine_1_q7 {NF : Nat} {v : Nat → Int32} {f : Nat → Nat → Int32} {w : Int64} {g : Nat → Int64} {r70 : Int32} {v72 : Nat → Int32} {f73 : Nat → Nat → Int32} {w74 : Int64} {g75 : Nat → Int64} (h0 : gsY_X11_isWord_1 NF (1685217655 : Int64) v f w g = 1) (h1 : ((v 34) = 0)) (h2 : gsY_X11_told_1 NF (1685217655 : Int64) 999 (upd v 34 1) f w g = (r70, v72, f73, w74, g75)) (h3 : ¬ ((v72 1) = 0)) (h4 : ¬ ((v72 1) = 0)) : gsY_X11_readLine_1_J7 NF v f w g = ((upd v72 23 r70), f73, w74, g75) := by
  simp only [gsY_X11_readLine_1_J7, h0, if_pos h1, h2, if_neg h3, if_neg h4, ite11, ite01, if_true, if_false]
theorem gsY_X11_readLine_1_q8 {NF : Nat} {v : Nat → Int32} {f : Nat → Nat → Int32} {w : Int64} {g : Nat → Int64} {r70 : Int32} {v72 : Nat → Int32} {f73 : Nat → Nat → Int32} {w74 : Int64} {g75 : Nat → Int64} {v84 : Nat → Int32} {f85 : Nat → Nat → Int32} {w86 : Int64} {g87 : Nat → Int64} (h0 : gsY_X11_isWord_1 NF (1685217655 : Int64) v f w g = 1) (h1 : ((v 34) = 0)) (h2 : gsY_X11_told_1 NF (1685217655 : Int64) 999 (upd v 34 1) f w g = (r70, v72, f73, w74, g75)) (h3 : ¬ ((v72 1) = 0)) (h4 : ((v72 1) = 0)) (h5 : gsY_X11_token_1 NF (upd v72 23 r70) f73 w74 g75 = (v84, f85, w86, g87)) : gsY_X11_readLine_1_J7 NF v f w g = (v84, f85, w86, g87) := by
  exact absurd h4 h3
theorem gsY_X11_readLine_1_q9 {NF : Nat} {v : Nat → Int32} {f : Nat → Nat → Int32} {w : Int64} {g : Nat → Int64} {r70 : Int32} {v72 : Nat → Int32} {f73 : Nat → Nat → Int32} {w74 : Int64} {g75 : Nat → Int64} (h0 : gsY_X11_isWord_1 NF (1685217655 : Int64) v f w g = 1) (h1 : ((v 34) = 0)) (h2 : gsY_X11_told_1 NF (1685217655 : Int64) 999 (upd v 34 1) f w g = (r70, v72, f73, w74, g75)) (h3 : ((v72 1) = 0)) (h4 : ((v72 5) = 59)) (h5 : ¬ ((v72 1) = 0)) : gsY_X11_readLine_1_J7 NF v f w g = ((upd v72 23 r70), f73, w74, g75) := by
  exact absurd h3 h5
theorem gsY_X11_readLine_1_q10 {NF : Nat} {v : Nat → Int32} {f : Nat → Nat → Int32} {w : Int64} {g : Nat → Int64} {r70 : Int32} {v72 : Nat → Int32} {f73 : Nat → Nat → Int32} {w74 : Int64} {g75 : Nat → Int64} {v96 : Nat → Int32} {f97 : Nat → Nat → Int32} {w98 : Int64} {g99 : Nat → Int64} (h0 : gsY_X11_isWord_1 NF (1685217655 : Int64) v f w g = 1) (h1 : ((v 34) = 0)) (h2 : gsY_X11_told_1 NF (1685217655 : Int64) 999 (upd v 34 1) f w g = (r70, v72, f73, w74, g75)) (h3 : ((v72 1) = 0)) (h4 : ((v72 5) = 59)) (h5 : ((v72 1) = 0)) (h6 : gsY_X11_token_1 NF (upd v72 23 r70) f73 w74 g75 = (v96, f97, w98, g99)) : gsY_X11_readLine_1_J7 NF v f w g = (v96, f97, w98, g99) := by
  simp only [gsY_X11_readLine_1_J7, h0, if_pos h1, h2, if_pos h3, if_pos h4, if_pos h5, h6, ite11, ite01, if_true, if_false]
theorem gsY_X11_readLine_1_q11 {NF : Nat} {v : Nat → Int32} {f : Nat → Nat → Int32} {w : Int64} {g : Nat → Int64} {r70 : Int32} {v72 : Nat → Int32} {f73 : Nat → Nat → Int32} {w74 : Int64} {g75 : Nat → Int64} {v106 : Nat → Int32} {f107 : Nat → Nat → Int32} {w108 : Int64} {g109 : Nat → Int64} (h0 : gsY_X11_isWord_1 NF (1685217655 : Int64) v f w g = 1) (h1 : ((v 34) = 0)) (h2 : gsY_X11_told_1 NF (1685217655 : Int64) 999 (upd v 34 1) f w g = (r70, v72, f73, w74, g75)) (h3 : ((v72 1) = 0)) (h4 : ¬ ((v72 5) = 59)) (h5 : gsY_X11_wrong_1 NF 2 (upd v72 23 r70) f73 w74 g75 = (v106, f107, w108, g109)) (h6 : ¬ ((v106 1) = 0)) : gsY_X11_readLine_1_J7 NF v f w g = (v106, f107, w108, g109) := by
  simp only [gsY_X11_readLine_1_J7, h0, if_pos h1, h2, if_pos h3, if_neg h4, h5, if_neg h6, ite11, ite01, if_true, if_false]
theorem gsY_X11_readLine_1_q12 {NF : Nat} {v : Nat → Int32} {f : Nat → Nat → Int32} {w : Int64} {g : Nat → Int64} {r70 : Int32} {v72 : Nat → Int32} {f73 : Nat → Nat → Int32} {w74 : Int64} {g75 : Nat → Int64} {v106 : Nat → Int32} {f107 : Nat → Nat → Int32} {w108 : Int64} {g109 : Nat → Int64} {v118 : Nat → Int32} {f119 : Nat → Nat → Int32} {w120 : Int64} {g121 : Nat → Int64} (h0 : gsY_X11_isWord_1 NF (1685217655 : Int64) v f w g = 1) (h1 : ((v 34) = 0)) (h2 : gsY_X11_told_1 NF (1685217655 : Int64) 999 (upd v 34 1) f w g = (r70, v72, f73, w74, g75)) (h3 : ((v72 1) = 0)) (h4 : ¬ ((v72 5) = 59)) (h5 : gsY_X11_wrong_1 NF 2 (upd v72 23 r70) f73 w74 g75 = (v106, f107, w108, g109)) (h6 : ((v106 1) = 0)) (h7 : gsY_X11_token_1 NF v106 f107 w108 g109 = (v118, f119, w120, g121)) : gsY_X11_readLine_1_J7 NF v f w g = (v118, f119, w120, g121) := by
  simp only [gsY_X11_readLine_1_J7, h0, if_pos h1, h2, if_pos h3, if_neg h4, h5, if_pos h6, h7, ite11, ite01, if_true, if_false]
theorem gsY_X11_readLine_1_q13 {NF : Nat} {v : Nat → Int32} {f : Nat → Nat → Int32} {w : Int64} {g : Nat → Int64} (h0 : gsY_X11_isWord_1 NF (1685217655 : Int64) v f w g = 0) : gsY_X11_readLine_1_J7 NF v f w g = gsY_X11_readLine_1_J8 NF v f w g := by
  simp only [gsY_X11_readLine_1_J7, h0, ite11, ite01, if_true, if_false]
theorem gsY_X11_readLine_1_q0 {NF : Nat} {v : Nat → Int32} {f : Nat → Nat → Int32} {w : Int64} {g : Nat → Int64} {v10 : Nat → Int32} {f11 : Nat → Nat → Int32} {w12 : Int64} {g13 : Nat → Int64} (h0 : gsY_X11_wrong_1 NF 2 v f w g = (v10, f11, w12, g13)) (h1 : ¬ ((v10 1) = 0)) (h2 : ¬ ((v10 1) = 0)) : gsY_X11_readLine_1_J8 NF v f w g = (v10, f11, w12, g13) := by
  simp only [gsY_X11_readLine_1_J8, h0, if_neg h1, if_neg h2]
theorem gsY_X11_readLine_1_q1 {NF : Nat} {v : Nat → Int32} {f : Nat → Nat → Int32} {w : Int64} {g : Nat → Int64} {v10 : Nat → Int32} {f11 : Nat → Nat → Int32} {w12 : Int64} {g13 : Nat → Int64} {v23 : Nat → Int32} {f24 : Nat → Nat → Int32} {w25 : Int64} {g26 : Nat → Int64} (h0 : gsY_X11_wrong_1 NF 2 v f w g = (v10, f11, w12, g13)) (h1 : ¬ ((v10 1) = 0)) (h2 : ((v10 1) = 0)) (h3 : gsY_X11_token_1 NF v10 f11 w12 g13 = (v23, f24, w25, g26)) : gsY_X11_readLine_1_J8 NF v f w g = (v23, f24, w25, g26) := by
  exact absurd h2 h1
theorem gsY_X11_readLine_1_q2 {NF : Nat} {v : Nat → Int32} {f : Nat → Nat → Int32} {w : Int64} {g : Nat → Int64} {v10 : Nat → Int32} {f11 : Nat → Nat → Int32} {w12 : Int64} {g13 : Nat → Int64} (h0 : gsY_X11_wrong_1 NF 2 v f w g = (v10, f11, w12, g13)) (h1 : ((v10 1) = 0)) (h2 : ((v 5) = 59)) (h3 : ¬ ((v10 1) = 0)) : gsY_X11_readLine_1_J8 NF v f w g = (v10, f11, w12, g13) := by
  exact absurd h1 h3
theorem gsY_X11_readLine_1_q3 {NF : Nat} {v : Nat → Int32} {f : Nat → Nat → Int32} {w : Int64} {g : Nat → Int64} {v10 : Nat → Int32} {f11 : Nat → Nat → Int32} {w12 : Int64} {g13 : Nat → Int64} {v35 : Nat → Int32} {f36 : Nat → Nat → Int32} {w37 : Int64} {g38 : Nat → Int64} (h0 : gsY_X11_wrong_1 NF 2 v f w g = (v10, f11, w12, g13)) (h1 : ((v10 1) = 0)) (h2 : ((v 5) = 59)) (h3 : ((v10 1) = 0)) (h4 : gsY_X11_token_1 NF v10 f11 w12 g13 = (v35, f36, w37, g38)) : gsY_X11_readLine_1_J8 NF v f w g = (v35, f36, w37, g38) := by
  simp only [gsY_X11_readLine_1_J8, h0, if_pos h1, if_pos h2, if_pos h3, h4]
theorem gsY_X11_readLine_1_q4 {NF : Nat} {v : Nat → Int32} {f : Nat → Nat → Int32} {w : Int64} {g : Nat → Int64} {v10 : Nat → Int32} {f11 : Nat → Nat → Int32} {w12 : Int64} {g13 : Nat → Int64} {v45 : Nat → Int32} {f46 : Nat → Nat → Int32} {w47 : Int64} {g48 : Nat → Int64} (h0 : gsY_X11_wrong_1 NF 2 v f w g = (v10, f11, w12, g13)) (h1 : ((v10 1) = 0)) (h2 : ¬ ((v 5) = 59)) (h3 : gsY_X11_wrong_1 NF 2 v10 f11 w12 g13 = (v45, f46, w47, g48)) (h4 : ¬ ((v45 1) = 0)) : gsY_X11_readLine_1_J8 NF v f w g = (v45, f46, w47, g48) := by
  simp only [gsY_X11_readLine_1_J8, h0, if_pos h1, if_neg h2, h3, if_neg h4]
theorem gsY_X11_readLine_1_q5 {NF : Nat} {v : Nat → Int32} {f : Nat → Nat → Int32} {w : Int64} {g : Nat → Int64} {v10 : Nat → Int32} {f11 : Nat → Nat → Int32} {w12 : Int64} {g13 : Nat → Int64} {v45 : Nat → Int32} {f46 : Nat → Nat → Int32} {w47 : Int64} {g48 : Nat → Int64} {v57 : Nat → Int32} {f58 : Nat → Nat → Int32} {w59 : Int64} {g60 : Nat → Int64} (h0 : gsY_X11_wrong_1 NF 2 v f w g = (v10, f11, w12, g13)) (h1 : ((v10 1) = 0)) (h2 : ¬ ((v 5) = 59)) (h3 : gsY_X11_wrong_1 NF 2 v10 f11 w12 g13 = (v45, f46, w47, g48)) (h4 : ((v45 1) = 0)) (h5 : gsY_X11_token_1 NF v45 f46 w47 g48 = (v57, f58, w59, g60)) : gsY_X11_readLine_1_J8 NF v f w g = (v57, f58, w59, g60) := by
  simp only [gsY_X11_readLine_1_J8, h0, if_pos h1, if_neg h2, h3, if_pos h4, h5]
