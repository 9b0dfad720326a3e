set_option maxRecDepth 20000 in
theorem inB_0 : ∀ w ∈ u_ws RX0 TX0 8, w ∈ BIG := fun w h => mB ((goodIn_r (big := lw_tbl) (u_ws RX0 TX0 8) [441, 443, 445, 447, 449, 451, 453, 455] (by decide +kernel) (by decide +kernel)) w h).1 (List.all_eq_true.mp (show (u_ws RX0 TX0 8).all goodWord = true from by decide +kernel) w h)
set_option maxRecDepth 20000 in
theorem inB_1 : ∀ w ∈ u_ws RX1 TX1 2, w ∈ BIG := fun w h => mB ((goodIn_r (big := lw_tbl) (u_ws RX1 TX1 2) [320, 322] (by decide +kernel) (by decide +kernel)) w h).1 (List.all_eq_true.mp (show (u_ws RX1 TX1 2).all goodWord = true from by decide +kernel) w h)
set_option maxRecDepth 20000 in
theorem inB_2 : ∀ w ∈ u_ws RX2 TX2 3, w ∈ BIG := fun w h => mB ((goodIn_r (big := lw_tbl) (u_ws RX2 TX2 3) [417, 419, 421] (by decide +kernel) (by decide +kernel)) w h).1 (List.all_eq_true.mp (show (u_ws RX2 TX2 3).all goodWord = true from by decide +kernel) w h)
set_option maxRecDepth 20000 in
theorem inB_3 : ∀ w ∈ u_ws RX3 TX3 10, w ∈ BIG := fun w h => mB ((goodIn_r (big := lw_tbl) (u_ws RX3 TX3 10) [387, 389, 391, 393, 395, 397, 399, 401, 403, 405] (by decide +kernel) (by decide +kernel)) w h).1 (List.all_eq_true.mp (show (u_ws RX3 TX3 10).all goodWord = true from by decide +kernel) w h)
set_option maxRecDepth 20000 in
theorem inB_4 : ∀ w ∈ u_ws RX4 TX4 6, w ∈ BIG := fun w h => mB ((goodIn_r (big := lw_tbl) (u_ws RX4 TX4 6) [186, 188, 190, 192, 194, 196] (by decide +kernel) (by decide +kernel)) w h).1 (List.all_eq_true.mp (show (u_ws RX4 TX4 6).all goodWord = true from by decide +kernel) w h)
set_option maxRecDepth 20000 in
theorem inB_5 : ∀ w ∈ u_ws RX5 TX5 7, w ∈ BIG := fun w h => mB ((goodIn_r (big := lw_tbl) (u_ws RX5 TX5 7) [347, 349, 351, 353, 355, 357, 359] (by decide +kernel) (by decide +kernel)) w h).1 (List.all_eq_true.mp (show (u_ws RX5 TX5 7).all goodWord = true from by decide +kernel) w h)
set_option maxRecDepth 20000 in
theorem inB_6 : ∀ w ∈ u_ws RX6 TX6 7, w ∈ BIG := fun w h => mB ((goodIn_r (big := lw_tbl) (u_ws RX6 TX6 7) [275, 277, 279, 281, 283, 285, 287] (by decide +kernel) (by decide +kernel)) w h).1 (List.all_eq_true.mp (show (u_ws RX6 TX6 7).all goodWord = true from by decide +kernel) w h)
set_option maxRecDepth 20000 in
theorem inB_7 : ∀ w ∈ u_ws RX7 TX7 10, w ∈ BIG := fun w h => mB ((goodIn_r (big := lw_tbl) (u_ws RX7 TX7 10) [244, 246, 248, 250, 252, 254, 256, 258, 260, 262] (by decide +kernel) (by decide +kernel)) w h).1 (List.all_eq_true.mp (show (u_ws RX7 TX7 10).all goodWord = true from by decide +kernel) w h)
set_option maxRecDepth 20000 in
theorem inB_8 : ∀ w ∈ u_ws RX8 TX8 7, w ∈ BIG := fun w h => mB ((goodIn_r (big := lw_tbl) (u_ws RX8 TX8 7) [475, 477, 479, 481, 483, 485, 487] (by decide +kernel) (by decide +kernel)) w h).1 (List.all_eq_true.mp (show (u_ws RX8 TX8 7).all goodWord = true from by decide +kernel) w h)
set_option maxRecDepth 20000 in
theorem inB_9 : ∀ w ∈ u_ws RX9 TX9 6, w ∈ BIG := fun w h => mB ((goodIn_r (big := lw_tbl) (u_ws RX9 TX9 6) [146, 148, 150, 152, 154, 156] (by decide +kernel) (by decide +kernel)) w h).1 (List.all_eq_true.mp (show (u_ws RX9 TX9 6).all goodWord = true from by decide +kernel) w h)
set_option maxRecDepth 20000 in
theorem inB_10 : ∀ w ∈ u_ws RX10 TX10 10, w ∈ BIG := fun w h => mB ((goodIn_r (big := lw_tbl) (u_ws RX10 TX10 10) [501, 503, 505, 507, 509, 511, 513, 515, 517, 519] (by decide +kernel) (by decide +kernel)) w h).1 (List.all_eq_true.mp (show (u_ws RX10 TX10 10).all goodWord = true from by decide +kernel) w h)
set_option maxRecDepth 20000 in
theorem inB_11 : ∀ w ∈ u_ws RX11 TX11 79, w ∈ BIG := fun w h => mB ((goodIn_r (big := lw_tbl) (u_ws RX11 TX11 79) [1399, 1401, 1403, 1405, 1407, 1409, 1411, 1413, 1415, 1417, 1419, 1421, 1423, 1425, 1427, 1429, 1431, 1433, 1435, 1437, 1439, 1441, 1443, 1445, 1447, 1449, 1451, 1453, 1455, 1457, 1459, 1461, 1463, 1465, 1467, 1469, 1471, 1473, 1475, 1477, 1479, 1481, 1483, 1485, 1487, 1489, 1491, 1493, 1495, 1497, 1499, 1501, 1503, 1505, 1507, 1509, 1511, 1513, 1515, 1517, 1519, 1521, 1523, 1525, 1527, 1529, 1531, 1533, 1535, 1537, 1539, 1541, 1543, 1545, 1547, 1549, 1551, 1553, 1555] (by decide +kernel) (by decide +kernel)) w h).1 (List.all_eq_true.mp (show (u_ws RX11 TX11 79).all goodWord = true from by decide +kernel) w h)
theorem nwd_0 : ∀ j, j < 8 → defaultValue (tyX0 j) = vp_V [.null, .null, .null, .int 0, .null, .null, .int 0, .int 0] j := fun j hj => match j, hj with
  | 0, _ => rfl
  | 1, _ => rfl
  | 2, _ => rfl
  | 3, _ => rfl
  | 4, _ => rfl
  | 5, _ => rfl
  | 6, _ => rfl
  | 7, _ => rfl
  | j + 8, h => absurd h (by omega)
theorem nwd_1 : ∀ j, j < 2 → defaultValue (tyX1 j) = vp_V [.null, .null] j := fun j hj => match j, hj with
  | 0, _ => rfl
  | 1, _ => rfl
  | j + 2, h => absurd h (by omega)
theorem nwd_2 : ∀ j, j < 3 → defaultValue (tyX2 j) = vp_V [.null, .null, .null] j := fun j hj => match j, hj with
  | 0, _ => rfl
  | 1, _ => rfl
  | 2, _ => rfl
  | j + 3, h => absurd h (by omega)
theorem nwd_3 : ∀ j, j < 10 → defaultValue (tyX3 j) = vp_V [.null, .null, .null, .int 0, .int 0, .int 0, .int 0, .int 0, .int 0, .int 0] j := fun j hj => match j, hj with
  | 0, _ => rfl
  | 1, _ => rfl
  | 2, _ => rfl
  | 3, _ => rfl
  | 4, _ => rfl
  | 5, _ => rfl
  | 6, _ => rfl
  | 7, _ => rfl
  | 8, _ => rfl
  | 9, _ => rfl
  | j + 10, h => absurd h (by omega)
theorem nwd_4 : ∀ j, j < 6 → defaultValue (tyX4 j) = vp_V [.null, .null, .null, .null, .int 0, .int 0] j := fun j hj => match j, hj with
  | 0, _ => rfl
  | 1, _ => rfl
  | 2, _ => rfl
  | 3, _ => rfl
  | 4, _ => rfl
  | 5, _ => rfl
  | j + 6, h => absurd h (by omega)
theorem nwd_5 : ∀ j, j < 7 → defaultValue (tyX5 j) = vp_V [.null, .null, .null, .int 0, .int 0, .int 0, .int 0] j := fun j hj => match j, hj with
  | 0, _ => rfl
  | 1, _ => rfl
  | 2, _ => rfl
  | 3, _ => rfl
  | 4, _ => rfl
  | 5, _ => rfl
  | 6, _ => rfl
  | j + 7, h => absurd h (by omega)
theorem nwd_6 : ∀ j, j < 7 → defaultValue (tyX6 j) = vp_V [.null, .null, .null, .null, .int 0, .int 0, .int 0] j := fun j hj => match j, hj with
  | 0, _ => rfl
  | 1, _ => rfl
  | 2, _ => rfl
  | 3, _ => rfl
  | 4, _ => rfl
  | 5, _ => rfl
  | 6, _ => rfl
  | j + 7, h => absurd h (by omega)
theorem nwd_7 : ∀ j, j < 10 → defaultValue (tyX7 j) = vp_V [.null, .null, .null, .int 0, .int 0, .int 0, .int 0, .int 0, .int 0, .int 0] j := fun j hj => match j, hj with
  | 0, _ => rfl
  | 1, _ => rfl
  | 2, _ => rfl
  | 3, _ => rfl
  | 4, _ => rfl
  | 5, _ => rfl
  | 6, _ => rfl
  | 7, _ => rfl
  | 8, _ => rfl
  | 9, _ => rfl
  | j + 10, h => absurd h (by omega)
theorem nwd_8 : ∀ j, j < 7 → defaultValue (tyX8 j) = vp_V [.null, .null, .null, .null, .null, .int 0, .null] j := fun j hj => match j, hj with
  | 0, _ => rfl
  | 1, _ => rfl
  | 2, _ => rfl
  | 3, _ => rfl
  | 4, _ => rfl
  | 5, _ => rfl
  | 6, _ => rfl
  | j + 7, h => absurd h (by omega)
theorem nwd_9 : ∀ j, j < 6 → defaultValue (tyX9 j) = vp_V [.null, .int 0, .int 0, .int 0, .int 0, .int 0] j := fun j hj => match j, hj with
  | 0, _ => rfl
  | 1, _ => rfl
  | 2, _ => rfl
  | 3, _ => rfl
  | 4, _ => rfl
  | 5, _ => rfl
  | j + 6, h => absurd h (by omega)
theorem nwd_10 : ∀ j, j < 10 → defaultValue (tyX10 j) = vp_V [.null, .null, .null, .null, .null, .null, .null, .null, .null, .int 0] j := fun j hj => match j, hj with
  | 0, _ => rfl
  | 1, _ => rfl
  | 2, _ => rfl
  | 3, _ => rfl
  | 4, _ => rfl
  | 5, _ => rfl
  | 6, _ => rfl
  | 7, _ => rfl
  | 8, _ => rfl
  | 9, _ => rfl
  | j + 10, h => absurd h (by omega)
theorem nwd_11 : ∀ j, j < 79 → defaultValue (tyX11 j) = vp_V [.null, .int 0, .int 0, .int 0, .int 0, .int 0, .int 0, .int 0, .int 0, .long 0, .null, .null, .null, .null, .null, .null, .null, .int 0, .int 0, .int 0, .int 0, .int 0, .int 0, .int 0, .int 0, .int 0, .null, .null, .null, .null, .null, .null, .null, .null, .null, .null, .null, .null, .null, .null, .null, .int 0, .int 0, .int 0, .int 0, .int 0, .int 0, .int 0, .int 0, .int 0, .int 0, .int 0, .int 0, .int 0, .int 0, .int 0, .int 0, .int 0, .int 0, .null, .null, .null, .int 0, .int 0, .null, .null, .null, .int 0, .null, .null, .null, .null, .null, .int 0, .int 0, .null, .null, .null, .null] j := fun j hj => match j, hj with
  | 0, _ => rfl
  | 1, _ => rfl
  | 2, _ => rfl
  | 3, _ => rfl
  | 4, _ => rfl
  | 5, _ => rfl
  | 6, _ => rfl
  | 7, _ => rfl
  | 8, _ => rfl
  | 9, _ => rfl
  | 10, _ => rfl
  | 11, _ => rfl
  | 12, _ => rfl
  | 13, _ => rfl
  | 14, _ => rfl
  | 15, _ => rfl
  | 16, _ => rfl
  | 17, _ => rfl
  | 18, _ => rfl
  | 19, _ => rfl
  | 20, _ => rfl
  | 21, _ => rfl
  | 22, _ => rfl
  | 23, _ => rfl
  | 24, _ => rfl
  | 25, _ => rfl
  | 26, _ => rfl
  | 27, _ => rfl
  | 28, _ => rfl
  | 29, _ => rfl
  | 30, _ => rfl
  | 31, _ => rfl
  | 32, _ => rfl
  | 33, _ => rfl
  | 34, _ => rfl
  | 35, _ => rfl
  | 36, _ => rfl
  | 37, _ => rfl
  | 38, _ => rfl
  | 39, _ => rfl
  | 40, _ => rfl
  | 41, _ => rfl
  | 42, _ => rfl
  | 43, _ => rfl
  | 44, _ => rfl
  | 45, _ => rfl
  | 46, _ => rfl
  | 47, _ => rfl
  | 48, _ => rfl
  | 49, _ => rfl
  | 50, _ => rfl
  | 51, _ => rfl
  | 52, _ => rfl
  | 53, _ => rfl
  | 54, _ => rfl
  | 55, _ => rfl
  | 56, _ => rfl
  | 57, _ => rfl
  | 58, _ => rfl
  | 59, _ => rfl
  | 60, _ => rfl
  | 61, _ => rfl
  | 62, _ => rfl
  | 63, _ => rfl
  | 64, _ => rfl
  | 65, _ => rfl
  | 66, _ => rfl
  | 67, _ => rfl
  | 68, _ => rfl
  | 69, _ => rfl
  | 70, _ => rfl
  | 71, _ => rfl
  | 72, _ => rfl
  | 73, _ => rfl
  | 74, _ => rfl
  | 75, _ => rfl
  | 76, _ => rfl
  | 77, _ => rfl
  | 78, _ => rfl
  | j + 79, h => absurd h (by omega)
theorem tl_m2147483648 : ((-2147483648) : Int32).toInt = -2147483648 := by decide
theorem tl_m100 : ((-100) : Int32).toInt = -100 := by decide
theorem tl_m2 : ((-2) : Int32).toInt = -2 := by decide
theorem tl_m1 : ((-1) : Int32).toInt = -1 := by decide
theorem tl_0 : (0 : Int32).toInt = 0 := by decide
theorem tl_1 : (1 : Int32).toInt = 1 := by decide
theorem tl_2 : (2 : Int32).toInt = 2 := by decide
theorem tl_3 : (3 : Int32).toInt = 3 := by decide
theorem tl_4 : (4 : Int32).toInt = 4 := by decide
theorem tl_5 : (5 : Int32).toInt = 5 := by decide
theorem tl_6 : (6 : Int32).toInt = 6 := by decide
theorem tl_7 : (7 : Int32).toInt = 7 := by decide
theorem tl_8 : (8 : Int32).toInt = 8 := by decide
theorem tl_9 : (9 : Int32).toInt = 9 := by decide
theorem tl_10 : (10 : Int32).toInt = 10 := by decide
theorem tl_11 : (11 : Int32).toInt = 11 := by decide
theorem tl_12 : (12 : Int32).toInt = 12 := by decide
theorem tl_13 : (13 : Int32).toInt = 13 := by decide
theorem tl_20 : (20 : Int32).toInt = 20 := by decide
theorem tl_21 : (21 : Int32).toInt = 21 := by decide
theorem tl_39 : (39 : Int32).toInt = 39 := by decide
theorem tl_64 : (64 : Int32).toInt = 64 := by decide
theorem tl_150 : (150 : Int32).toInt = 150 := by decide
theorem tl_448 : (448 : Int32).toInt = 448 := by decide
theorem tl_999 : (999 : Int32).toInt = 999 := by decide
theorem tl_1000 : (1000 : Int32).toInt = 1000 := by decide
theorem tl_100000 : (100000 : Int32).toInt = 100000 := by decide
theorem and_m1 (x : Int32) : x &&& (-1) = x := by
  apply Int32.toBitVec_inj.mp
  show x.toBitVec &&& (-1 : Int32).toBitVec = x.toBitVec
  rw [show (-1 : Int32).toBitVec = BitVec.allOnes 32 from by decide]
  exact BitVec.and_allOnes
def F_feed (_p1 : Int32) (_p2 : Int32) (_p3 : Int32) (_p4 : Int32) (_p5 : Int32) : Int32 := 20
def F_end (p1 : Int32) : Int32 := if p1 = 0 then 0 else -1
def F_regiment : Int32 := 0
def F_fault (p1 : Int32) : Int32 := if p1 = 0 then 0 else -1
def F_man (_p1 : Int32) (_p2 : Int32) : Int32 := -2
def F_coat (_p1 : Int32) (_p2 : Int32) : Int32 := -2
def F_misfit (_p1 : Int32) (_p2 : Int32) : Int32 := -1
def F_day : Int32 := 0
def F_don (_p1 : Int32) (_p2 : Int32) : Int32 := -2
def F_doff (_p1 : Int32) : Int32 := -1
def F_letout (_p1 : Int32) (_p2 : Int32) : Int32 := -1
def F_takein (_p1 : Int32) (_p2 : Int32) : Int32 := -1
def F_hem (_p1 : Int32) (_p2 : Int32) : Int32 := -1
def F_turn (_p1 : Int32) : Int32 := -1
def F_undo : Int32 := 0
def F_redo : Int32 := 0
def F_will (_p1 : Int32) (_p2 : Int32) (_p3 : Int32) : Int32 := -2
def F_out (_p1 : Int32) : Int32 := -1
def F_fitted : Int32 := 0
def F_dress (p1 : Int32) : Int32 := if p1 = 0 then 0 else if p1 = 1 then 0 else -1
def F_sewing (_p1 : Int32) (_p2 : Int32) (_p3 : Int32) : Int32 := -100
def F_rota (_p1 : Int32) : Int32 := -1
def F_change (_p1 : Int32) : Int32 := -1
def F_front (p1 : Int32) (p2 : Int32) : Int32 := if p1 = 0 then (if p2 = 0 then 0 else if p2 = 1 then 0 else -1) else -1
def F_wings (p1 : Int32) : Int32 := if p1 = 0 then 0 else if p1 = 1 then 0 else -1
def F_cloth : Int32 := 0
def F_buttons : Int32 := 0
def F_reach (_p1 : Int32) (_p2 : Int32) : Int32 := -1
def F_turning : Int32 := -1
def F_rags : Int32 := 0
def F_naked : Int32 := 0
def F_popular (_p1 : Int32) : Int32 := -1
def F_law (p1 : Int32) : Int32 := if 0 ≤ p1 ∧ p1 ≤ 999 then 0 else -1
def F_ease : Int32 := 0
def F_breadth : Int32 := 0
def F_rout : Int32 := 0
def F_odds (p1 : Int32) (p2 : Int32) : Int32 := if 0 ≤ p1 ∧ p1 ≤ 4 ∧ 0 ≤ p2 ∧ p2 ≤ 1 then 1 else -1
def F_lies (_p1 : Int32) : Int32 := -2
def F_seen (_p1 : Int32) (_p2 : Int32) : Int32 := -1
def F_untell (_p1 : Int32) : Int32 := 0
def F_later (p1 : Int32) : Int32 := if 0 ≤ p1 ∧ p1 ≤ 1000 then p1 else -1
def F_growths (_p1 : Int32) : Int32 := 0
def F_sure (_p1 : Int32) (_p2 : Int32) : Int32 := -1
def F_ask (_p1 : Int32) (_p2 : Int32) : Int32 := -1
def F_image (p1 : Int32) : Int32 := if 0 ≤ p1 ∧ p1 ≤ 2 then 0 else -1
def F_back (_p1 : Int32) : Int32 := -1
def F_about (p1 : Int32) : Int32 := if p1 = 2 then 10 else if p1 = 3 then 150 else if p1 = 4 then 2 else if 0 ≤ p1 ∧ p1 ≤ 13 then 0 else -1
def mv0 : Nat → Int32 := fun k => if k = 3 then (-1) else if k = 50 then 10 else if k = 51 then 150 else if k = 52 then 2 else 0
def mFs (r : Nat → Nat) (v : Nat → Int32) : List Value := [.ref (r 0), .int (v 1), .int (v 2), .int (v 3), .int (v 4), .int (v 5), .int (v 6), .int (v 7), .int (v 8), .long 0, .ref (r 10), .ref (r 11), .ref (r 12), .ref (r 13), .ref (r 14), .ref (r 15), .ref (r 16), .int (v 17), .int (v 18), .int (v 19), .int (v 20), .int (v 21), .int (v 22), .int (v 23), .int (v 24), .int (v 25), .ref (r 26), .ref (r 27), .ref (r 28), .ref (r 29), .ref (r 30), .ref (r 31), .ref (r 32), .ref (r 33), .ref (r 34), .ref (r 35), .ref (r 36), .ref (r 37), .ref (r 38), .ref (r 39), .ref (r 40), .int (v 41), .int (v 42), .int (v 43), .int (v 44), .int (v 45), .int (v 46), .int (v 47), .int (v 48), .int (v 49), .int (v 50), .int (v 51), .int (v 52), .int (v 53), .int (v 54), .int (v 55), .int (v 56), .int (v 57), .int (v 58), .ref (r 59), .ref (r 60), .ref (r 61), .int (v 62), .int (v 63), .ref (r 64), .ref (r 65), .ref (r 66), .int (v 67), .ref (r 68), .ref (r 69), .ref (r 70), .ref (r 71), .ref (r 72), .int (v 73), .int (v 74), .ref (r 75), .ref (r 76), .ref (r 77), .ref (r 78)]
def LW (cy : Nat → ClassId) (x0 y0 : Nat) (x r : Nat → Nat) : va_W := [(x0, .inr (10, [.ref (x 0), .ref (x 2), .ref (x 26), .ref (x 21), .ref (x 20), .ref (x 25), .ref (x 29), .ref (x 31), .ref (x 35), .int 0])),
  ((x 0), .inr (9, [.ref (x 1), .int 0, .int 0, .int 0, .int 0, .int 0])),
  ((x 1), .inl (cy 0, 1600, .inl zF)),
  ((x 2), .inr (6, [.ref (x 0), .ref (x 3), .ref (x 11), .ref (x 12), .int 0, .int 0, .int (-1)])),
  ((x 3), .inr (7, [.ref (x 4), .ref (x 5), .ref (x 6), .int 0, .int 0, .int 10, .int 150, .int 2, .int 0, .int 0])),
  ((x 4), .inl (cy 1, 18, .inl zF)),
  ((x 5), .inl (cy 1, 24, .inl zF)),
  ((x 6), .inr (4, [.ref (x 7), .ref (x 8), .ref (x 9), .ref (x 10), .int 0, .int 0])),
  ((x 7), .inl (cy 1, 300, .inl zF)),
  ((x 8), .inl (cy 1, 300, .inl zF)),
  ((x 9), .inl (cy 1, 30, .inl zF)),
  ((x 10), .inl (cy 1, 6, .inl zF)),
  ((x 11), .inl (cy 1, 6, .inl zF)),
  ((x 12), .inl (cy 1, 6, .inl zF)),
  ((x 13), .inl (cy 1, 18, .inl zF)),
  ((x 14), .inl (cy 1, 24, .inl zF)),
  ((x 15), .inr (4, [.ref (x 16), .ref (x 17), .ref (x 18), .ref (x 19), .int 0, .int 0])),
  ((x 16), .inl (cy 1, 300, .inl zF)),
  ((x 17), .inl (cy 1, 300, .inl zF)),
  ((x 18), .inl (cy 1, 30, .inl zF)),
  ((x 19), .inl (cy 1, 6, .inl zF)),
  ((x 20), .inr (5, [.ref (x 21), .ref (x 24), .ref (x 23), .int 0, .int 0, .int 0, .int 0])),
  ((x 21), .inr (1, [.ref (x 26), .ref (x 22)])),
  ((x 22), .inl (cy 1, 44, .inl cF)),
  ((x 23), .inl (cy 1, 132, .inl zF)),
  ((x 24), .inl (cy 1, 1804, .inl (va_cpy cF zF 0 0 44))),
  ((x 25), .inr (3, [.ref (x 26), .ref (x 21), .ref (x 27), .int 0, .int 0, .int 0, .int 0, .int 0, .int 0, .int 0])),
  ((x 26), .inr (7, [.ref (x 13), .ref (x 14), .ref (x 15), .int 0, .int 0, .int 10, .int 150, .int 2, .int 0, .int 0])),
  ((x 27), .inr (1, [.ref (x 26), .ref (x 28)])),
  ((x 28), .inl (cy 1, 44, .inl cF)),
  ((x 29), .inr (2, [.ref (x 26), .ref (x 21), .ref (x 30)])),
  ((x 30), .inl (cy 1, 64, .inl zF)),
  ((x 31), .inr (0, [.ref (x 26), .ref (x 21), .ref (x 32), .int 0, .ref (x 33), .ref (x 34), .int 0, .int 0])),
  ((x 32), .inl (cy 1, 6, .inl zF)),
  ((x 33), .inl (cy 1, 448, .inl zF)),
  ((x 34), .inl (cy 1, 36, .inl zF)),
  ((x 35), .inr (8, [.ref (x 26), .ref (x 36), .ref (x 37), .ref (x 38), .ref (x 39), .int 0, .ref (x 40)])),
  ((x 36), .inl (cy 1, 30, .inl zF)),
  ((x 37), .inl (cy 3, 30, .inl zF)),
  ((x 38), .inl (cy 1, 30, .inl zF)),
  ((x 39), .inl (cy 1, 30, .inl zF)),
  ((x 40), .inl (cy 1, 21, .inl (fiF zF (-1) 21))),
  (y0, .inr (11, mFs r mv0)),
  ((r 0), .inl (cy 1, 1600, .inl zF)),
  ((r 10), .inl (cy 2, 12, .inr (.inl zL))),
  ((r 11), .inl (cy 1, 320, .inl zF)),
  ((r 12), .inl (cy 1, 320, .inl zF)),
  ((r 13), .inl (cy 1, 320, .inl zF)),
  ((r 14), .inl (cy 1, 320, .inl zF)),
  ((r 15), .inl (cy 1, 160, .inl zF)),
  ((r 16), .inl (cy 1, 64, .inl zF)),
  ((r 26), .inl (cy 1, 6, .inl zF)),
  ((r 27), .inl (cy 1, 6, .inl zF)),
  ((r 28), .inl (cy 1, 6, .inl zF)),
  ((r 29), .inl (cy 1, 6, .inl zF)),
  ((r 30), .inl (cy 1, 6, .inl zF)),
  ((r 31), .inl (cy 1, 6, .inl zF)),
  ((r 32), .inl (cy 1, 6, .inl zF)),
  ((r 33), .inl (cy 1, 6, .inl zF)),
  ((r 34), .inl (cy 1, 6, .inl zF)),
  ((r 35), .inl (cy 1, 6, .inl zF)),
  ((r 36), .inl (cy 1, 6, .inl zF)),
  ((r 37), .inl (cy 1, 6, .inl zF)),
  ((r 38), .inl (cy 1, 6, .inl zF)),
  ((r 39), .inl (cy 1, 6, .inl zF)),
  ((r 40), .inl (cy 1, 6, .inl zF)),
  ((r 59), .inl (cy 1, 39, .inl zF)),
  ((r 60), .inl (cy 1, 39, .inl zF)),
  ((r 61), .inl (cy 1, 1560, .inl zF)),
  ((r 64), .inl (cy 1, 6, .inl zF)),
  ((r 65), .inl (cy 1, 6, .inl zF)),
  ((r 66), .inl (cy 1, 36, .inl zF)),
  ((r 68), .inl (cy 1, 64, .inl zF)),
  ((r 69), .inl (cy 1, 30, .inl zF)),
  ((r 70), .inl (cy 1, 30, .inl zF)),
  ((r 71), .inl (cy 1, 30, .inl zF)),
  ((r 72), .inl (cy 3, 30, .inl zF)),
  ((r 75), .inl (cy 3, 651, .inl zF)),
  ((r 76), .inl (cy 3, 31, .inl zF)),
  ((r 77), .inl (cy 3, 3, .inl zF)),
  ((r 78), .inl (cy 1, 117, .inl zF))]
