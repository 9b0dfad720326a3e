set_option maxRecDepth 20000 in
theorem inB_0 : ∀ w ∈ u_ws RX0 TX0 8, w ∈ BIG := fun w h => mB ((goodIn_r (big := lw_tbl) (u_ws RX0 TX0 8) [441, 443, 445, 447, 449, 451, 453, 455] (by decide +kernel) (by decide +kernel)) w h).1 (List.all_eq_true.mp (show (u_ws RX0 TX0 8).all goodWord = true from by decide +kernel) w h)
set_option maxRecDepth 20000 in
theorem inB_1 : ∀ w ∈ u_ws RX1 TX1 2, w ∈ BIG := fun w h => mB ((goodIn_r (big := lw_tbl) (u_ws RX1 TX1 2) [320, 322] (by decide +kernel) (by decide +kernel)) w h).1 (List.all_eq_true.mp (show (u_ws RX1 TX1 2).all goodWord = true from by decide +kernel) w h)
set_option maxRecDepth 20000 in
theorem inB_2 : ∀ w ∈ u_ws RX2 TX2 3, w ∈ BIG := fun w h => mB ((goodIn_r (big := lw_tbl) (u_ws RX2 TX2 3) [417, 419, 421] (by decide +kernel) (by decide +kernel)) w h).1 (List.all_eq_true.mp (show (u_ws RX2 TX2 3).all goodWord = true from by decide +kernel) w h)
set_option maxRecDepth 20000 in
theorem inB_3 : ∀ w ∈ u_ws RX3 TX3 10, w ∈ BIG := fun w h => mB ((goodIn_r (big := lw_tbl) (u_ws RX3 TX3 10) [387, 389, 391, 393, 395, 397, 399, 401, 403, 405] (by decide +kernel) (by decide +kernel)) w h).1 (List.all_eq_true.mp (show (u_ws RX3 TX3 10).all goodWord = true from by decide +kernel) w h)
set_option maxRecDepth 20000 in
theorem inB_4 : ∀ w ∈ u_ws RX4 TX4 6, w ∈ BIG := fun w h => mB ((goodIn_r (big := lw_tbl) (u_ws RX4 TX4 6) [186, 188, 190, 192, 194, 196] (by decide +kernel) (by decide +kernel)) w h).1 (List.all_eq_true.mp (show (u_ws RX4 TX4 6).all goodWord = true from by decide +kernel) w h)
set_option maxRecDepth 20000 in
theorem inB_5 : ∀ w ∈ u_ws RX5 TX5 7, w ∈ BIG := fun w h => mB ((goodIn_r (big := lw_tbl) (u_ws RX5 TX5 7) [347, 349, 351, 353, 355, 357, 359] (by decide +kernel) (by decide +kernel)) w h).1 (List.all_eq_true.mp (show (u_ws RX5 TX5 7).all goodWord = true from by decide +kernel) w h)
set_option maxRecDepth 20000 in
theorem inB_6 : ∀ w ∈ u_ws RX6 TX6 7, w ∈ BIG := fun w h => mB ((goodIn_r (big := lw_tbl) (u_ws RX6 TX6 7) [275, 277, 279, 281, 283, 285, 287] (by decide +kernel) (by decide +kernel)) w h).1 (List.all_eq_true.mp (show (u_ws RX6 TX6 7).all goodWord = true from by decide +kernel) w h)
set_option maxRecDepth 20000 in
theorem inB_7 : ∀ w ∈ u_ws RX7 TX7 10, w ∈ BIG := fun w h => mB ((goodIn_r (big := lw_tbl) (u_ws RX7 TX7 10) [244, 246, 248, 250, 252, 254, 256, 258, 260, 262] (by decide +kernel) (by decide +kernel)) w h).1 (List.all_eq_true.mp (show (u_ws RX7 TX7 10).all goodWord = true from by decide +kernel) w h)
set_option maxRecDepth 20000 in
theorem inB_8 : ∀ w ∈ u_ws RX8 TX8 7, w ∈ BIG := fun w h => mB ((goodIn_r (big := lw_tbl) (u_ws RX8 TX8 7) [475, 477, 479, 481, 483, 485, 487] (by decide +kernel) (by decide +kernel)) w h).1 (List.all_eq_true.mp (show (u_ws RX8 TX8 7).all goodWord = true from by decide +kernel) w h)
set_option maxRecDepth 20000 in
theorem inB_9 : ∀ w ∈ u_ws RX9 TX9 6, w ∈ BIG := fun w h => mB ((goodIn_r (big := lw_tbl) (u_ws RX9 TX9 6) [146, 148, 150, 152, 154, 156] (by decide +kernel) (by decide +kernel)) w h).1 (List.all_eq_true.mp (show (u_ws RX9 TX9 6).all goodWord = true from by decide +kernel) w h)
set_option maxRecDepth 20000 in
theorem inB_10 : ∀ w ∈ u_ws RX10 TX10 10, w ∈ BIG := fun w h => mB ((goodIn_r (big := lw_tbl) (u_ws RX10 TX10 10) [501, 503, 505, 507, 509, 511, 513, 515, 517, 519] (by decide +kernel) (by decide +kernel)) w h).1 (List.all_eq_true.mp (show (u_ws RX10 TX10 10).all goodWord = true from by decide +kernel) w h)
set_option maxRecDepth 20000 in
theorem inB_11 : ∀ w ∈ u_ws RX11 TX11 79, w ∈ BIG := fun w h => mB ((goodIn_r (big := lw_tbl) (u_ws RX11 TX11 79) [1399, 1401, 1403, 1405, 1407, 1409, 1411, 1413, 1415, 1417, 1419, 1421, 1423, 1425, 1427, 1429, 1431, 1433, 1435, 1437, 1439, 1441, 1443, 1445, 1447, 1449, 1451, 1453, 1455, 1457, 1459, 1461, 1463, 1465, 1467, 1469, 1471, 1473, 1475, 1477, 1479, 1481, 1483, 1485, 1487, 1489, 1491, 1493, 1495, 1497, 1499, 1501, 1503, 1505, 1507, 1509, 1511, 1513, 1515, 1517, 1519, 1521, 1523, 1525, 1527, 1529, 1531, 1533, 1535, 1537, 1539, 1541, 1543, 1545, 1547, 1549, 1551, 1553, 1555] (by decide +kernel) (by decide +kernel)) w h).1 (List.all_eq_true.mp (show (u_ws RX11 TX11 79).all goodWord = true from by decide +kernel) w h)
