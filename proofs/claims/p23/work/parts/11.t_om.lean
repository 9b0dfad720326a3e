theorem zEp {x y : Int32} {a b : Int} (hx : x.toInt = a) (hy : y.toInt = b) (c : x = y) : a = b := by rw [← hx, ← hy, c]
theorem zEn {x y : Int32} {a b : Int} (hx : x.toInt = a) (hy : y.toInt = b) (c : ¬ x = y) : ¬ (a = b) := by rw [← hx, ← hy]; exact fun h => c (Int32.toInt_inj.mp h)
theorem zLp {x y : Int32} {a b : Int} (hx : x.toInt = a) (hy : y.toInt = b) (c : x < y) : a < b := by rw [← hx, ← hy]; exact (fa_lt _ _).mp c
theorem zLn {x y : Int32} {a b : Int} (hx : x.toInt = a) (hy : y.toInt = b) (c : ¬ x < y) : ¬ (a < b) := by rw [← hx, ← hy]; exact fun h => c ((fa_lt _ _).mpr h)
theorem zMp {x y : Int32} {a b : Int} (hx : x.toInt = a) (hy : y.toInt = b) (c : x ≤ y) : a ≤ b := by rw [← hx, ← hy]; exact (fa_le _ _).mp c
theorem zMn {x y : Int32} {a b : Int} (hx : x.toInt = a) (hy : y.toInt = b) (c : ¬ x ≤ y) : ¬ (a ≤ b) := by rw [← hx, ← hy]; exact fun h => c ((fa_le _ _).mpr h)
theorem vpI {x : Int32} {n : Nat} {k : Int} (hk : (n : Int) = k) (h1 : 0 ≤ x.toInt) (h2 : x.toInt < k) : vp_in x n := vp_in_iff.mpr ⟨h1, by rw [hk]; exact h2⟩
theorem tc_m8 : ((-8) : Int32).toInt = -8 := by decide
theorem tc_m1 : ((-1) : Int32).toInt = -1 := by decide
theorem tc_0 : (0 : Int32).toInt = 0 := by decide
theorem tc_1 : (1 : Int32).toInt = 1 := by decide
theorem tc_2 : (2 : Int32).toInt = 2 := by decide
theorem tc_3 : (3 : Int32).toInt = 3 := by decide
theorem tc_4 : (4 : Int32).toInt = 4 := by decide
theorem tc_5 : (5 : Int32).toInt = 5 := by decide
theorem tc_6 : (6 : Int32).toInt = 6 := by decide
theorem tc_7 : (7 : Int32).toInt = 7 := by decide
theorem tc_8 : (8 : Int32).toInt = 8 := by decide
theorem tc_9 : (9 : Int32).toInt = 9 := by decide
theorem tc_10 : (10 : Int32).toInt = 10 := by decide
theorem tc_11 : (11 : Int32).toInt = 11 := by decide
theorem tc_12 : (12 : Int32).toInt = 12 := by decide
theorem tc_13 : (13 : Int32).toInt = 13 := by decide
theorem tc_16 : (16 : Int32).toInt = 16 := by decide
theorem tc_18 : (18 : Int32).toInt = 18 := by decide
theorem tc_20 : (20 : Int32).toInt = 20 := by decide
theorem tc_21 : (21 : Int32).toInt = 21 := by decide
theorem tc_24 : (24 : Int32).toInt = 24 := by decide
theorem tc_30 : (30 : Int32).toInt = 30 := by decide
theorem tc_32 : (32 : Int32).toInt = 32 := by decide
theorem tc_37 : (37 : Int32).toInt = 37 := by decide
theorem tc_38 : (38 : Int32).toInt = 38 := by decide
theorem tc_39 : (39 : Int32).toInt = 39 := by decide
theorem tc_40 : (40 : Int32).toInt = 40 := by decide
theorem tc_41 : (41 : Int32).toInt = 41 := by decide
theorem tc_42 : (42 : Int32).toInt = 42 := by decide
theorem tc_43 : (43 : Int32).toInt = 43 := by decide
theorem tc_44 : (44 : Int32).toInt = 44 := by decide
theorem tc_45 : (45 : Int32).toInt = 45 := by decide
theorem tc_46 : (46 : Int32).toInt = 46 := by decide
theorem tc_47 : (47 : Int32).toInt = 47 := by decide
theorem tc_48 : (48 : Int32).toInt = 48 := by decide
theorem tc_49 : (49 : Int32).toInt = 49 := by decide
theorem tc_50 : (50 : Int32).toInt = 50 := by decide
theorem tc_51 : (51 : Int32).toInt = 51 := by decide
theorem tc_52 : (52 : Int32).toInt = 52 := by decide
theorem tc_53 : (53 : Int32).toInt = 53 := by decide
theorem tc_54 : (54 : Int32).toInt = 54 := by decide
theorem tc_55 : (55 : Int32).toInt = 55 := by decide
theorem tc_56 : (56 : Int32).toInt = 56 := by decide
theorem tc_57 : (57 : Int32).toInt = 57 := by decide
theorem tc_58 : (58 : Int32).toInt = 58 := by decide
theorem tc_59 : (59 : Int32).toInt = 59 := by decide
theorem tc_60 : (60 : Int32).toInt = 60 := by decide
theorem tc_61 : (61 : Int32).toInt = 61 := by decide
theorem tc_62 : (62 : Int32).toInt = 62 := by decide
theorem tc_64 : (64 : Int32).toInt = 64 := by decide
theorem tc_97 : (97 : Int32).toInt = 97 := by decide
theorem tc_99 : (99 : Int32).toInt = 99 := by decide
theorem tc_100 : (100 : Int32).toInt = 100 := by decide
theorem tc_101 : (101 : Int32).toInt = 101 := by decide
theorem tc_102 : (102 : Int32).toInt = 102 := by decide
theorem tc_103 : (103 : Int32).toInt = 103 := by decide
theorem tc_104 : (104 : Int32).toInt = 104 := by decide
theorem tc_105 : (105 : Int32).toInt = 105 := by decide
theorem tc_106 : (106 : Int32).toInt = 106 := by decide
theorem tc_107 : (107 : Int32).toInt = 107 := by decide
theorem tc_108 : (108 : Int32).toInt = 108 := by decide
theorem tc_111 : (111 : Int32).toInt = 111 := by decide
theorem tc_112 : (112 : Int32).toInt = 112 := by decide
theorem tc_113 : (113 : Int32).toInt = 113 := by decide
theorem tc_114 : (114 : Int32).toInt = 114 := by decide
theorem tc_115 : (115 : Int32).toInt = 115 := by decide
theorem tc_116 : (116 : Int32).toInt = 116 := by decide
theorem tc_120 : (120 : Int32).toInt = 120 := by decide
theorem tc_121 : (121 : Int32).toInt = 121 := by decide
theorem tc_122 : (122 : Int32).toInt = 122 := by decide
theorem tc_124 : (124 : Int32).toInt = 124 := by decide
theorem tc_255 : (255 : Int32).toInt = 255 := by decide
theorem tc_256 : (256 : Int32).toInt = 256 := by decide
theorem tc_300 : (300 : Int32).toInt = 300 := by decide
theorem tc_448 : (448 : Int32).toInt = 448 := by decide
theorem tc_999 : (999 : Int32).toInt = 999 := by decide
theorem tc_1000 : (1000 : Int32).toInt = 1000 := by decide
theorem tc_1521 : (1521 : Int32).toInt = 1521 := by decide
theorem tc_1600 : (1600 : Int32).toInt = 1600 := by decide
theorem tc_65536 : (65536 : Int32).toInt = 65536 := by decide
theorem tc_100000 : (100000 : Int32).toInt = 100000 := by decide
theorem tc_1000000 : (1000000 : Int32).toInt = 1000000 := by decide
theorem om_0 {a0 : Int} (h0 : (0 ≤ a0) ∧ (a0 ≤ 1600)) : (-2147483648) ≤ (a0 + 20) := by omega
theorem om_1 {a0 : Int} (h0 : (0 ≤ a0) ∧ (a0 ≤ 1600)) : (a0 + 20) < 2147483648 := by omega
theorem om_2 {a0 : Int} (h0 : (0 ≤ a0) ∧ (a0 ≤ 1600)) : 0 ≤ a0 := by omega
theorem om_3 {a0 : Int} (h0 : ¬ (1600 ≤ a0)) : a0 < 1600 := by omega
theorem om_4 {a0 : Int} (h0 : (0 ≤ a0) ∧ (a0 ≤ 1600)) : (-2147483648) ≤ (a0 + 1) := by omega
theorem om_5 {a0 : Int} (h0 : ¬ (1600 ≤ a0)) : (a0 + 1) < 2147483648 := by omega
theorem om_6 {a0 : Int} (h0 : ¬ (a0 < 0)) : (-2147483648) ≤ (a0 + (-8)) := by omega
theorem om_7 {a0 : Int} (h0 : ((-2147483648) ≤ a0) ∧ (a0 ≤ 24)) : (a0 + (-8)) < 2147483648 := by omega
theorem om_8 {a0 a1 : Int} (h0 : (0 ≤ a1) ∧ (a1 ≤ 1600)) (h1 : a0 = (a1 + 1)) : 0 ≤ a0 := by omega
theorem om_9 {a0 a1 : Int} (h0 : ¬ (1600 ≤ a1)) (h1 : a0 = (a1 + 1)) : a0 ≤ 1600 := by omega
theorem om_10 {a0 : Int} (h0 : ((-2147483648) ≤ a0) ∧ (a0 < 2147483648)) : (-2147483648) ≤ a0 := by omega
theorem om_11 {a0 a1 : Int} (h0 : ((-2147483648) ≤ a1) ∧ (a1 ≤ 24)) (h1 : a0 = (a1 + (-8))) : a0 ≤ 24 := by omega
theorem om_12 {a0 a2 : Int} {m1 : Nat} (h0 : ((a2 + 2147483648)).toNat < (m1 + 1)) (h1 : a0 = (a2 + (-8))) (h2 : ((-2147483648) ≤ a0) ∧ (a0 < 2147483648)) : ((a0 + 2147483648)).toNat < m1 := by omega
theorem om_13 {a0 : Int} {m1 : Nat} (h0 : a0 = 24) : ((a0 + 2147483648)).toNat < (4294967296 + m1) := by omega
theorem om_14 {a0 : Int} (h0 : ¬ (a0 < 0)) : 0 ≤ a0 := by omega
theorem om_15 {a0 a1 : Int} (h0 : (0 ≤ a1) ∧ (a1 ≤ 1600)) (h1 : a0 ≤ a1) : a0 ≤ 1600 := by omega
theorem om_16 {a0 a1 : Int} (h0 : (0 ≤ a1) ∧ (a1 ≤ 1600)) (h1 : ¬ (a1 ≤ a0)) : a0 < 1600 := by omega
theorem om_17 {a0 a1 : Int} (h0 : ¬ (a1 ≤ a0)) : a0 < a1 := by omega
theorem om_18 {a0 a1 : Int} (h0 : (0 ≤ a1) ∧ (a1 ≤ 1600)) (h1 : ¬ (a1 ≤ a0)) : a0 ≤ 1599 := by omega
theorem om_19 {a0 : Int} (h0 : (0 ≤ a0) ∧ (a0 ≤ 101)) : 0 ≤ a0 := by omega
theorem om_20 {a0 : Int} (h0 : (0 ≤ a0) ∧ (a0 ≤ 101)) : a0 ≤ 101 := by omega
theorem om_21 {a0 : Int} (h0 : (0 ≤ a0) ∧ (a0 ≤ 101)) : a0 < 102 := by omega
theorem om_22 {a0 : Int} (h0 : (0 ≤ a0) ∧ (a0 ≤ 102)) : 0 ≤ a0 := by omega
theorem om_23 {a0 : Int} (h0 : ¬ (102 ≤ a0)) : a0 ≤ 101 := by omega
theorem om_24 {a0 a1 : Int} (h0 : (0 ≤ a1) ∧ (a1 ≤ 102)) (h1 : (0 ≤ a0) ∧ (a0 ≤ 1600)) : (-2147483648) ≤ (a0 + a1) := by omega
theorem om_25 {a0 a1 : Int} (h0 : ¬ (102 ≤ a1)) (h1 : (0 ≤ a0) ∧ (a0 ≤ 1600)) : (a0 + a1) < 2147483648 := by omega
theorem om_26 {a0 a1 a2 a3 : Int} (h0 : a1 ≤ a2) (h1 : (0 ≤ a3) ∧ (a3 ≤ 1600)) (h2 : a0 = (a3 + a2)) : (-2147483648) ≤ (a0 - a1) := by omega
theorem om_27 {a0 a1 : Int} (h0 : (0 ≤ a1) ∧ (a1 ≤ 102)) (h1 : ((-2147483648) ≤ a0) ∧ (a0 < 2147483648)) : (a0 - a1) < 2147483648 := by omega
theorem om_28 {a0 : Int} (h0 : (0 ≤ a0) ∧ (a0 ≤ 102)) : (-2147483648) ≤ (a0 + 1) := by omega
theorem om_29 {a0 : Int} (h0 : ¬ (102 ≤ a0)) : (a0 + 1) < 2147483648 := by omega
theorem om_30 {a0 a1 : Int} (h0 : (0 ≤ a1) ∧ (a1 ≤ 102)) (h1 : a0 = (a1 + 1)) : 0 ≤ a0 := by omega
theorem om_31 {a0 a1 : Int} (h0 : ¬ (102 ≤ a1)) (h1 : a0 = (a1 + 1)) : a0 ≤ 102 := by omega
theorem om_32 {a0 a1 a2 : Int} (h0 : a0 = (a2 + 1)) (h1 : a1 = (a2 + 1)) : a0 ≤ a1 := by omega
theorem om_33 {a0 a2 : Int} {m1 : Nat} (h0 : ((2147483647 - a2)).toNat < (m1 + 1)) (h1 : a0 = (a2 + 1)) (h2 : ((-2147483648) ≤ a0) ∧ (a0 < 2147483648)) : ((2147483647 - a0)).toNat < m1 := by omega
theorem om_34 {a0 : Int} (h0 : (0 ≤ a0) ∧ (a0 ≤ 102)) : a0 ≤ 102 := by omega
theorem om_35 {a0 a1 a2 : Int} (h0 : a0 ≤ a2) (h1 : a1 = (a2 + 1)) : a0 ≤ a1 := by omega
theorem om_36 {a0 a1 a2 a3 a4 : Int} (h0 : a1 ≤ a2) (h1 : (0 ≤ a3) ∧ (a3 ≤ 1600)) (h2 : a4 = (a3 + a2)) (h3 : a0 = (a4 - a1)) : 0 ≤ a0 := by omega
theorem om_37 {a0 : Int} (h0 : a0 = 0) : a0 ≤ a0 := by omega
theorem om_38 {a0 : Int} {m1 : Nat} (h0 : a0 = 0) : ((2147483647 - a0)).toNat < (4294967296 + m1) := by omega
theorem om_39 {a0 : Int} (h0 : (0 ≤ a0) ∧ (a0 ≤ 2147483647)) : 0 ≤ a0 := by omega
theorem om_40 {a0 a1 : Int} (h0 : (0 ≤ a1) ∧ (a1 ≤ 11)) (h1 : ¬ (a1 ≤ a0)) : a0 < 11 := by omega
theorem om_41 {a0 : Int} (h0 : (0 ≤ a0) ∧ (a0 ≤ 2147483647)) : (-2147483648) ≤ (a0 + 1) := by omega
theorem om_42 {a0 a1 : Int} (h0 : (0 ≤ a1) ∧ (a1 ≤ 11)) (h1 : ¬ (a1 ≤ a0)) : (a0 + 1) < 2147483648 := by omega
theorem om_43 {a0 a1 : Int} (h0 : (0 ≤ a1) ∧ (a1 ≤ 2147483647)) (h1 : a0 = (a1 + 1)) : 0 ≤ a0 := by omega
theorem om_44 {a0 : Int} (h0 : ((-2147483648) ≤ a0) ∧ (a0 < 2147483648)) : a0 ≤ 2147483647 := by omega
theorem om_45 {a0 : Int} (h0 : (0 ≤ a0) ∧ (a0 ≤ 11)) : 0 ≤ a0 := by omega
theorem om_46 {a0 : Int} (h0 : (0 ≤ a0) ∧ (a0 ≤ 11)) : a0 ≤ 2147483647 := by omega
theorem om_47 {a0 : Int} {m1 : Nat} (h0 : (0 ≤ a0) ∧ (a0 ≤ 11)) : ((2147483647 - a0)).toNat < (4294967296 + m1) := by omega
theorem om_48 {a0 : Int} (h0 : (0 ≤ a0) ∧ (a0 ≤ 1600)) : a0 ≤ 1600 := by omega
theorem om_49 {a0 a1 : Int} (h0 : (0 ≤ a0) ∧ (a0 ≤ 1600)) (h1 : (0 ≤ a1) ∧ (a1 ≤ 1600)) : (-2147483648) ≤ (a0 - a1) := by omega
theorem om_50 {a0 a1 : Int} (h0 : (0 ≤ a0) ∧ (a0 ≤ 1600)) (h1 : (0 ≤ a1) ∧ (a1 ≤ 1600)) : (a0 - a1) < 2147483648 := by omega
theorem om_51 {a0 : Int} (h0 : a0 ≤ 1599) : (a0 + 1) < 2147483648 := by omega
theorem om_52 {a0 a1 : Int} (h0 : a1 ≤ 1599) (h1 : a0 = (a1 + 1)) : a0 ≤ 1600 := by omega
theorem om_53 {a0 a2 : Int} {m1 : Nat} (h0 : ((1600 - a2)).toNat < (m1 + 1)) (h1 : a2 ≤ 1599) (h2 : a0 = (a2 + 1)) : ((1600 - a0)).toNat < m1 := by omega
theorem om_54 {a0 : Int} (h0 : a0 ≤ 1599) : a0 ≤ 1600 := by omega
theorem om_55 {a0 : Int} {m1 : Nat} (h0 : (0 ≤ a0) ∧ (a0 ≤ 1600)) : ((1600 - a0)).toNat < (4294967296 + m1) := by omega
theorem om_56 {a0 : Int} (h0 : a0 ≤ 1599) : a0 < 1600 := by omega
theorem om_57 {a0 : Int} (h0 : (0 ≤ a0) ∧ (a0 ≤ 1600)) : (a0 + 1) < 2147483648 := by omega
theorem om_58 {a0 a1 : Int} (h0 : (0 ≤ a1) ∧ (a1 ≤ 1600)) (h1 : a0 < a1) : a0 < 1600 := by omega
theorem om_59 {a0 a1 a2 : Int} (h0 : (0 ≤ a1) ∧ (a1 ≤ 1600)) (h1 : a2 < a1) (h2 : a0 = (a2 + 1)) : a0 ≤ 1600 := by omega
theorem om_60 {a0 a1 a2 : Int} (h0 : (0 ≤ a1) ∧ (a1 ≤ 1600)) (h1 : ¬ (a1 ≤ a2)) (h2 : a0 = (a2 + 1)) : a0 ≤ 1600 := by omega
theorem om_61 {a0 a2 a3 : Int} {m1 : Nat} (h0 : ((1600 - a2)).toNat < (m1 + 1)) (h1 : (0 ≤ a3) ∧ (a3 ≤ 1600)) (h2 : ¬ (a3 ≤ a2)) (h3 : a0 = (a2 + 1)) : ((1600 - a0)).toNat < m1 := by omega
theorem om_62 {a0 : Int} (h0 : 0 ≤ a0) : 0 ≤ a0 := by omega
theorem om_63 {a0 : Int} (h0 : ¬ (8 < a0)) : (a0 + 1) < 2147483648 := by omega
theorem om_64 {a0 : Int} (h0 : ¬ (6 ≤ a0)) : a0 < 6 := by omega
theorem om_65 {a0 : Int} (h0 : ¬ (6 ≤ a0)) : (a0 + 1) < 2147483648 := by omega
theorem om_66 {a0 : Int} (h0 : (0 ≤ a0) ∧ (a0 ≤ 6)) : (-2147483648) ≤ (0 + a0) := by omega
theorem om_67 {a0 : Int} (h0 : ¬ (6 ≤ a0)) : (0 + a0) < 2147483648 := by omega
theorem om_68 {a0 a1 : Int} (h0 : (0 ≤ a1) ∧ (a1 ≤ 6)) (h1 : a0 = (0 + a1)) : 0 ≤ a0 := by omega
theorem om_69 {a0 a1 : Int} (h0 : ¬ (6 ≤ a1)) (h1 : a0 = (0 + a1)) : a0 < 18 := by omega
theorem om_70 {a0 : Int} (h0 : (0 ≤ a0) ∧ (a0 ≤ 6)) : (-2147483648) ≤ (6 + a0) := by omega
theorem om_71 {a0 : Int} (h0 : ¬ (6 ≤ a0)) : (6 + a0) < 2147483648 := by omega
theorem om_72 {a0 a1 : Int} (h0 : (0 ≤ a1) ∧ (a1 ≤ 6)) (h1 : a0 = (6 + a1)) : 0 ≤ a0 := by omega
theorem om_73 {a0 a1 : Int} (h0 : ¬ (6 ≤ a1)) (h1 : a0 = (6 + a1)) : a0 < 18 := by omega
theorem om_74 {a0 : Int} (h0 : (0 ≤ a0) ∧ (a0 ≤ 6)) : (-2147483648) ≤ (12 + a0) := by omega
theorem om_75 {a0 : Int} (h0 : ¬ (6 ≤ a0)) : (12 + a0) < 2147483648 := by omega
theorem om_76 {a0 a1 : Int} (h0 : (0 ≤ a1) ∧ (a1 ≤ 6)) (h1 : a0 = (12 + a1)) : 0 ≤ a0 := by omega
theorem om_77 {a0 a1 : Int} (h0 : ¬ (6 ≤ a1)) (h1 : a0 = (12 + a1)) : a0 < 18 := by omega
theorem om_78 {a0 : Int} (h0 : (0 ≤ a0) ∧ (a0 ≤ 6)) : (-2147483648) ≤ (a0 + 1) := by omega
theorem om_79 {a0 a1 : Int} (h0 : (0 ≤ a1) ∧ (a1 ≤ 6)) (h1 : a0 = (a1 + 1)) : 0 ≤ a0 := by omega
theorem om_80 {a0 a1 : Int} (h0 : ¬ (6 ≤ a1)) (h1 : a0 = (a1 + 1)) : a0 ≤ 6 := by omega
theorem om_81 {a0 a1 : Int} (h0 : ¬ (6 ≤ a1)) (h1 : a0 = (0 + a1)) : a0 < 24 := by omega
theorem om_82 {a0 a1 : Int} (h0 : ¬ (6 ≤ a1)) (h1 : a0 = (6 + a1)) : a0 < 24 := by omega
theorem om_83 {a0 a1 : Int} (h0 : ¬ (6 ≤ a1)) (h1 : a0 = (12 + a1)) : a0 < 24 := by omega
theorem om_84 {a0 : Int} (h0 : (0 ≤ a0) ∧ (a0 ≤ 6)) : (-2147483648) ≤ (18 + a0) := by omega
theorem om_85 {a0 : Int} (h0 : ¬ (6 ≤ a0)) : (18 + a0) < 2147483648 := by omega
theorem om_86 {a0 a1 : Int} (h0 : (0 ≤ a1) ∧ (a1 ≤ 6)) (h1 : a0 = (18 + a1)) : 0 ≤ a0 := by omega
theorem om_87 {a0 a1 : Int} (h0 : ¬ (6 ≤ a1)) (h1 : a0 = (18 + a1)) : a0 < 24 := by omega
theorem om_88 {a0 : Int} (h0 : (0 ≤ a0) ∧ (a0 ≤ 300)) : 0 ≤ a0 := by omega
theorem om_89 {a0 : Int} (h0 : ¬ (300 ≤ a0)) : a0 < 300 := by omega
theorem om_90 {a0 : Int} (h0 : (0 ≤ a0) ∧ (a0 ≤ 300)) : (-2147483648) ≤ (a0 + 1) := by omega
theorem om_91 {a0 : Int} (h0 : ¬ (300 ≤ a0)) : (a0 + 1) < 2147483648 := by omega
theorem om_92 {a0 a1 : Int} (h0 : (0 ≤ a1) ∧ (a1 ≤ 300)) (h1 : a0 = (a1 + 1)) : 0 ≤ a0 := by omega
theorem om_93 {a0 a1 : Int} (h0 : ¬ (300 ≤ a1)) (h1 : a0 = (a1 + 1)) : a0 ≤ 300 := by omega
theorem om_94 {a0 : Int} (h0 : ¬ (1 ≤ a0)) : (a0 + 1) < 2147483648 := by omega
theorem om_95 {a0 : Int} (h0 : ((-2147483648) ≤ a0) ∧ (a0 < 2147483648)) : (-2147483648) ≤ (a0 + 1) := by omega
theorem om_96 {a0 : Int} (h0 : a0 < 30) : (a0 + 1) < 2147483648 := by omega
theorem om_97 {a0 : Int} (h0 : (0 ≤ a0) ∧ (a0 ≤ 300)) : a0 ≤ 300 := by omega
theorem om_98 {a0 : Int} (h0 : (0 ≤ a0) ∧ (a0 ≤ 6)) : 0 ≤ a0 := by omega
theorem om_99 {a0 : Int} (h0 : (0 ≤ a0) ∧ (a0 ≤ 6)) : a0 ≤ 6 := by omega
theorem om_100 {a0 a1 : Int} (h0 : (0 ≤ a1) ∧ (a1 ≤ 6)) (h1 : ¬ (a1 ≤ a0)) : a0 ≤ 5 := by omega
theorem om_101 {a0 : Int} (h0 : ¬ (a0 < 0)) : (-2147483648) ≤ (a0 * 6) := by omega
theorem om_102 {a0 : Int} (h0 : ¬ (4 ≤ a0)) : (a0 * 6) < 2147483648 := by omega
theorem om_103 {a0 a1 : Int} (h0 : 0 ≤ a1) (h1 : ((-2147483648) ≤ a0) ∧ (a0 < 2147483648)) : (-2147483648) ≤ (a0 + a1) := by omega
theorem om_104 {a0 a1 a2 : Int} (h0 : a1 ≤ 5) (h1 : ¬ (4 ≤ a2)) (h2 : a0 = (a2 * 6)) : (a0 + a1) < 2147483648 := by omega
theorem om_105 {a0 a1 a2 a3 : Int} (h0 : 0 ≤ a1) (h1 : ¬ (a2 < 0)) (h2 : a3 = (a2 * 6)) (h3 : a0 = (a3 + a1)) : 0 ≤ a0 := by omega
theorem om_106 {a0 a1 a2 a3 : Int} (h0 : a1 ≤ 5) (h1 : ¬ (4 ≤ a2)) (h2 : a3 = (a2 * 6)) (h3 : a0 = (a3 + a1)) : a0 < 24 := by omega
theorem om_107 {a0 : Int} (h0 : ¬ (3 ≤ a0)) : (a0 * 6) < 2147483648 := by omega
theorem om_108 {a0 a1 a2 : Int} (h0 : a1 ≤ 5) (h1 : ¬ (3 ≤ a2)) (h2 : a0 = (a2 * 6)) : (a0 + a1) < 2147483648 := by omega
theorem om_109 {a0 a1 a2 a3 : Int} (h0 : a1 ≤ 5) (h1 : ¬ (3 ≤ a2)) (h2 : a3 = (a2 * 6)) (h3 : a0 = (a3 + a1)) : a0 < 18 := by omega
theorem om_110 {a0 : Int} (h0 : (0 ≤ a0) ∧ (a0 ≤ 2147483647)) : (-2147483648) ≤ (a0 * 6) := by omega
theorem om_111 {a0 : Int} (h0 : ¬ (5 ≤ a0)) : (a0 * 6) < 2147483648 := by omega
theorem om_112 {a0 : Int} (h0 : ((-2147483648) ≤ a0) ∧ (a0 < 2147483648)) : (-2147483648) ≤ (12 + a0) := by omega
theorem om_113 {a0 a1 : Int} (h0 : ¬ (5 ≤ a1)) (h1 : a0 = (a1 * 6)) : (12 + a0) < 2147483648 := by omega
theorem om_114 {a0 a1 : Int} (h0 : (0 ≤ a1) ∧ (a1 ≤ 2147483647)) (h1 : ((-2147483648) ≤ a0) ∧ (a0 < 2147483648)) : (-2147483648) ≤ (a0 + a1) := by omega
theorem om_115 {a0 a1 a2 a3 : Int} (h0 : ¬ (6 ≤ a1)) (h1 : ¬ (5 ≤ a2)) (h2 : a3 = (a2 * 6)) (h3 : a0 = (12 + a3)) : (a0 + a1) < 2147483648 := by omega
theorem om_116 {a0 a1 a2 a3 a4 : Int} (h0 : (0 ≤ a1) ∧ (a1 ≤ 2147483647)) (h1 : (0 ≤ a2) ∧ (a2 ≤ 2147483647)) (h2 : a3 = (a2 * 6)) (h3 : a4 = (12 + a3)) (h4 : a0 = (a4 + a1)) : 0 ≤ a0 := by omega
theorem om_117 {a0 a1 a2 a3 a4 : Int} (h0 : ¬ (6 ≤ a1)) (h1 : ¬ (5 ≤ a2)) (h2 : a3 = (a2 * 6)) (h3 : a4 = (12 + a3)) (h4 : a0 = (a4 + a1)) : a0 < 44 := by omega
theorem om_118 {a0 : Int} (h0 : ¬ (5 ≤ a0)) : (a0 + 1) < 2147483648 := by omega
theorem om_119 {a0 : Int} (h0 : ¬ (6 ≤ a0)) : a0 < 44 := by omega
theorem om_120 {a0 : Int} (h0 : (0 ≤ a0) ∧ (a0 ≤ 2147483647)) : (-2147483648) ≤ (6 + a0) := by omega
theorem om_121 {a0 a1 : Int} (h0 : (0 ≤ a1) ∧ (a1 ≤ 2147483647)) (h1 : a0 = (6 + a1)) : 0 ≤ a0 := by omega
theorem om_122 {a0 a1 : Int} (h0 : ¬ (6 ≤ a1)) (h1 : a0 = (6 + a1)) : a0 < 44 := by omega
theorem om_123 {a0 : Int} (h0 : ¬ (a0 < 0)) : (-2147483648) ≤ (a0 * 44) := by omega
theorem om_124 {a0 : Int} (h0 : ¬ (41 ≤ a0)) : (a0 * 44) < 2147483648 := by omega
theorem om_125 {a0 : Int} (h0 : ¬ (21 ≤ a0)) : a0 < 21 := by omega
theorem om_126 {a0 : Int} (h0 : ¬ (21 ≤ a0)) : (a0 + 1) < 2147483648 := by omega
theorem om_127 {a0 : Int} (h0 : (0 ≤ a0) ∧ (a0 ≤ 30)) : 0 ≤ a0 := by omega
theorem om_128 {a0 : Int} (h0 : a0 < 30) : a0 < 30 := by omega
theorem om_129 {a0 : Int} (h0 : (0 ≤ a0) ∧ (a0 ≤ 30)) : (-2147483648) ≤ (a0 + 1) := by omega
theorem om_130 {a0 a1 : Int} (h0 : (0 ≤ a1) ∧ (a1 ≤ 30)) (h1 : a0 = (a1 + 1)) : (-2147483648) ≤ (a0 - 1) := by omega
theorem om_131 {a0 : Int} (h0 : ((-2147483648) ≤ a0) ∧ (a0 < 2147483648)) : (a0 - 1) < 2147483648 := by omega
theorem om_132 {a0 a1 : Int} (h0 : (0 ≤ a1) ∧ (a1 ≤ 30)) (h1 : a0 = (a1 + 1)) : 0 ≤ a0 := by omega
theorem om_133 {a0 a1 : Int} (h0 : a1 < 30) (h1 : a0 = (a1 + 1)) : a0 ≤ 30 := by omega
theorem om_134 {a0 : Int} (h0 : ¬ (30 ≤ a0)) : a0 < 30 := by omega
theorem om_135 {a0 a1 : Int} (h0 : ¬ (a1 < 0)) (h1 : (0 ≤ a0) ∧ (a0 ≤ 100000)) : (-2147483648) ≤ (a0 + a1) := by omega
theorem om_136 {a0 a1 : Int} (h0 : ¬ (1000 < a1)) (h1 : (0 ≤ a0) ∧ (a0 ≤ 100000)) : (a0 + a1) < 2147483648 := by omega
theorem om_137 {a0 a1 a2 : Int} (h0 : ¬ (a1 < 0)) (h1 : (0 ≤ a2) ∧ (a2 ≤ 100000)) (h2 : a0 = (a2 + a1)) : 0 ≤ a0 := by omega
theorem om_138 {a0 : Int} (h0 : a0 ≤ 100000) : a0 ≤ 100000 := by omega
theorem om_139 {a0 : Int} (h0 : ¬ (a0 = 0)) : ¬ (a0 = 0) := by omega
theorem om_140 {a0 : Int} (h0 : ¬ (100 ≤ a0)) : (a0 + 1) < 2147483648 := by omega
theorem om_141 {a0 : Int} (h0 : 1 ≤ a0) : ¬ (a0 = 0) := by omega
theorem om_142 {a0 a1 : Int} (h0 : ¬ (4 < a1)) (h1 : ¬ (a1 ≤ a0)) : (a0 + 1) < 2147483648 := by omega
theorem om_143 {a0 : Int} (h0 : a0 ≤ 5) : a0 < 44 := by omega
theorem om_144 {a0 a1 a2 a3 : Int} (h0 : a1 ≤ 5) (h1 : ¬ (5 ≤ a2)) (h2 : a3 = (a2 * 6)) (h3 : a0 = (12 + a3)) : (a0 + a1) < 2147483648 := by omega
theorem om_145 {a0 a1 a2 a3 a4 : Int} (h0 : 0 ≤ a1) (h1 : ¬ (a2 < 0)) (h2 : a3 = (a2 * 6)) (h3 : a4 = (12 + a3)) (h4 : a0 = (a4 + a1)) : 0 ≤ a0 := by omega
theorem om_146 {a0 a1 a2 a3 a4 : Int} (h0 : a1 ≤ 5) (h1 : ¬ (5 ≤ a2)) (h2 : a3 = (a2 * 6)) (h3 : a4 = (12 + a3)) (h4 : a0 = (a4 + a1)) : a0 < 44 := by omega
theorem om_147 {a0 : Int} (h0 : 30 ≤ a0) : 0 ≤ a0 := by omega
theorem om_148 {a0 : Int} (h0 : (0 ≤ a0) ∧ (a0 ≤ 30)) : a0 ≤ 30 := by omega
theorem om_149 {a0 : Int} (h0 : a0 = 2) : (-2147483648) ≤ (a0 - 116) := by omega
theorem om_150 {a0 : Int} (h0 : a0 = 2) : (a0 - 116) < 2147483648 := by omega
theorem om_151 {a0 a1 : Int} (h0 : a1 = 2) (h1 : ¬ (a1 = 2)) : 0 ≤ a0 := by omega
theorem om_152 {a0 a1 : Int} (h0 : a1 = 2) (h1 : a0 = (a1 - 116)) : a0 < 6 := by omega
theorem om_153 {a0 : Int} (h0 : ¬ (30 ≤ a0)) : (a0 + 1) < 2147483648 := by omega
theorem om_154 {a0 a1 : Int} (h0 : ¬ (30 ≤ a1)) (h1 : a0 = (a1 + 1)) : a0 ≤ 30 := by omega
theorem om_155 {a0 : Int} (h0 : a0 < 2) : a0 ≤ 30 := by omega
theorem om_156 {a0 : Int} (h0 : ¬ (a0 < 2)) : (-2147483648) ≤ (a0 - 2) := by omega
theorem om_157 {a0 : Int} (h0 : (0 ≤ a0) ∧ (a0 ≤ 30)) : (a0 - 2) < 2147483648 := by omega
theorem om_158 {a0 a1 : Int} (h0 : ¬ (a1 < 2)) (h1 : a0 = (a1 - 2)) : 0 ≤ a0 := by omega
theorem om_159 {a0 a1 : Int} (h0 : (0 ≤ a1) ∧ (a1 ≤ 30)) (h1 : a0 = (a1 - 2)) : a0 < 30 := by omega
theorem om_160 {a0 : Int} (h0 : ¬ (a0 < 2)) : (-2147483648) ≤ (a0 - 1) := by omega
theorem om_161 {a0 : Int} (h0 : (0 ≤ a0) ∧ (a0 ≤ 30)) : (a0 - 1) < 2147483648 := by omega
theorem om_162 {a0 a1 : Int} (h0 : ¬ (a1 < 2)) (h1 : a0 = (a1 - 1)) : 0 ≤ a0 := by omega
theorem om_163 {a0 a1 : Int} (h0 : (0 ≤ a1) ∧ (a1 ≤ 30)) (h1 : a0 = (a1 - 1)) : a0 < 30 := by omega
theorem om_164 {a0 : Int} (h0 : ¬ (a0 < 2)) : (-2147483648) ≤ (a0 + (-1)) := by omega
theorem om_165 {a0 : Int} (h0 : (0 ≤ a0) ∧ (a0 ≤ 30)) : (a0 + (-1)) < 2147483648 := by omega
theorem om_166 {a0 a1 : Int} (h0 : ¬ (a1 < 2)) (h1 : a0 = (a1 + (-1))) : 0 ≤ a0 := by omega
theorem om_167 {a0 a1 : Int} (h0 : (0 ≤ a1) ∧ (a1 ≤ 30)) (h1 : a0 = (a1 + (-1))) : a0 ≤ 30 := by omega
theorem om_168 {a0 : Int} (h0 : a0 < 1) : a0 ≤ 30 := by omega
theorem om_169 {a0 : Int} (h0 : a0 < 1) : (a0 - 2) < 2147483648 := by omega
theorem om_170 {a0 a1 : Int} (h0 : a1 < 1) (h1 : ¬ (a1 < 2)) : 0 ≤ a0 := by omega
theorem om_171 {a0 a1 : Int} (h0 : a1 < 1) (h1 : a0 = (a1 - 2)) : a0 < 30 := by omega
theorem om_172 {a0 : Int} (h0 : a0 < 1) : (a0 - 1) < 2147483648 := by omega
theorem om_173 {a0 a1 : Int} (h0 : a1 < 1) (h1 : a0 = (a1 - 1)) : a0 < 30 := by omega
theorem om_174 {a0 : Int} (h0 : a0 < 1) : (a0 + (-1)) < 2147483648 := by omega
theorem om_175 {a0 a1 : Int} (h0 : a1 < 1) (h1 : a0 = (a1 + (-1))) : a0 ≤ 30 := by omega
theorem om_176 {a0 : Int} (h0 : ¬ (a0 < 1)) : (-2147483648) ≤ (a0 - 1) := by omega
theorem om_177 {a0 a1 : Int} (h0 : ¬ (a1 < 1)) (h1 : a0 = (a1 - 1)) : 0 ≤ a0 := by omega
theorem om_178 {a0 : Int} (h0 : ¬ (a0 < 1)) : 0 ≤ a0 := by omega
theorem om_179 {a0 : Int} (h0 : ¬ (a0 < 116)) : (-2147483648) ≤ (a0 - 116) := by omega
theorem om_180 {a0 : Int} (h0 : ¬ (122 ≤ a0)) : (a0 - 116) < 2147483648 := by omega
theorem om_181 {a0 a1 : Int} (h0 : ¬ (a1 < 116)) (h1 : a0 = (a1 - 116)) : 0 ≤ a0 := by omega
theorem om_182 {a0 a1 : Int} (h0 : ¬ (122 ≤ a1)) (h1 : a0 = (a1 - 116)) : a0 < 6 := by omega
theorem om_183 {a0 : Int} (h0 : 0 ≤ a0) : (-2147483648) ≤ (6 + a0) := by omega
theorem om_184 {a0 : Int} (h0 : a0 ≤ 5) : (6 + a0) < 2147483648 := by omega
theorem om_185 {a0 a1 : Int} (h0 : 0 ≤ a1) (h1 : a0 = (6 + a1)) : 0 ≤ a0 := by omega
theorem om_186 {a0 a1 : Int} (h0 : a1 ≤ 5) (h1 : a0 = (6 + a1)) : a0 < 44 := by omega
theorem om_187 {a0 a1 : Int} (h0 : (0 ≤ a1) ∧ (a1 ≤ 6)) (h1 : ¬ (a1 ≤ a0)) : (a0 + 1) < 2147483648 := by omega
theorem om_188 {a0 a1 : Int} (h0 : (0 ≤ a1) ∧ (a1 ≤ 6)) (h1 : ¬ (a1 ≤ a0)) : a0 < 44 := by omega
theorem om_189 {a0 : Int} (h0 : ¬ (40 ≤ a0)) : (a0 + 1) < 2147483648 := by omega
theorem om_190 {a0 a1 : Int} (h0 : a1 ≤ a0) : (-2147483648) ≤ (a0 - a1) := by omega
theorem om_191 {a0 a1 : Int} (h0 : ¬ (a1 < 1)) (h1 : ((-2147483648) ≤ a0) ∧ (a0 < 2147483648)) : (a0 - a1) < 2147483648 := by omega
theorem om_192 {a0 : Int} (h0 : ¬ (3 ≤ a0)) : (a0 * 44) < 2147483648 := by omega
theorem om_193 {a0 : Int} (h0 : a0 < 3) : a0 ≤ 5 := by omega
theorem om_194 {a0 : Int} (h0 : ¬ (64 ≤ a0)) : (a0 + 1) < 2147483648 := by omega
theorem om_195 {a0 a1 : Int} (h0 : (0 ≤ a1) ∧ (a1 ≤ 6)) (h1 : ((-2147483648) ≤ a0) ∧ (a0 < 2147483648)) : (a0 - a1) < 2147483648 := by omega
theorem om_196 {a0 a1 : Int} (h0 : ¬ (a1 ≤ a0)) (h1 : ((-2147483648) ≤ a1) ∧ (a1 < 2147483648)) : (a0 + 1) < 2147483648 := by omega
theorem om_197 {a0 : Int} (h0 : ¬ (60 < a0)) : (a0 + 1) < 2147483648 := by omega
theorem om_198 {a0 a1 : Int} (h0 : (0 ≤ a1) ∧ (a1 ≤ 6)) (h1 : ¬ (a1 ≤ a0)) : (a0 * 6) < 2147483648 := by omega
theorem om_199 {a0 a1 a2 a3 a4 : Int} (h0 : (0 ≤ a2) ∧ (a2 ≤ 6)) (h1 : ¬ (a2 ≤ a3)) (h2 : (0 ≤ a4) ∧ (a4 ≤ 6)) (h3 : ¬ (a4 ≤ a1)) (h4 : a0 = (a3 * 6)) : (a0 + a1) < 2147483648 := by omega
theorem om_200 {a0 a1 a2 a3 : Int} (h0 : (0 ≤ a1) ∧ (a1 ≤ 2147483647)) (h1 : (0 ≤ a2) ∧ (a2 ≤ 2147483647)) (h2 : a3 = (a1 * 6)) (h3 : a0 = (a3 + a2)) : 0 ≤ a0 := by omega
theorem om_201 {a0 a1 a2 a3 a4 a5 : Int} (h0 : (0 ≤ a1) ∧ (a1 ≤ 6)) (h1 : ¬ (a1 ≤ a2)) (h2 : (0 ≤ a3) ∧ (a3 ≤ 6)) (h3 : ¬ (a3 ≤ a4)) (h4 : a5 = (a2 * 6)) (h5 : a0 = (a5 + a4)) : a0 < 36 := by omega
theorem om_202 {a0 : Int} (h0 : ¬ (448 ≤ a0)) : a0 < 448 := by omega
theorem om_203 {a0 : Int} (h0 : ¬ (448 ≤ a0)) : (a0 + 1) < 2147483648 := by omega
theorem om_204 {a0 : Int} (h0 : (0 ≤ a0) ∧ (a0 ≤ 5)) : (-2147483648) ≤ (a0 * 6) := by omega
theorem om_205 {a0 : Int} (h0 : (0 ≤ a0) ∧ (a0 ≤ 5)) : (a0 * 6) < 2147483648 := by omega
theorem om_206 {a0 a1 : Int} (h0 : (0 ≤ a1) ∧ (a1 ≤ 5)) (h1 : ((-2147483648) ≤ a0) ∧ (a0 < 2147483648)) : (-2147483648) ≤ (a0 + a1) := by omega
theorem om_207 {a0 a1 a2 : Int} (h0 : (0 ≤ a2) ∧ (a2 ≤ 5)) (h1 : (0 ≤ a1) ∧ (a1 ≤ 5)) (h2 : a0 = (a2 * 6)) : (a0 + a1) < 2147483648 := by omega
theorem om_208 {a0 a1 a2 a3 : Int} (h0 : (0 ≤ a1) ∧ (a1 ≤ 5)) (h1 : (0 ≤ a2) ∧ (a2 ≤ 5)) (h2 : a3 = (a1 * 6)) (h3 : a0 = (a3 + a2)) : 0 ≤ a0 := by omega
theorem om_209 {a0 a1 a2 a3 : Int} (h0 : (0 ≤ a1) ∧ (a1 ≤ 5)) (h1 : (0 ≤ a2) ∧ (a2 ≤ 5)) (h2 : a3 = (a1 * 6)) (h3 : a0 = (a3 + a2)) : a0 < 36 := by omega
theorem om_210 {a0 : Int} (h0 : (0 ≤ a0) ∧ (a0 ≤ 5)) : (-2147483648) ≤ (a0 + 1) := by omega
theorem om_211 {a0 : Int} (h0 : (0 ≤ a0) ∧ (a0 ≤ 5)) : (a0 + 1) < 2147483648 := by omega
theorem om_212 {a0 a1 : Int} (h0 : (0 ≤ a1) ∧ (a1 ≤ 5)) (h1 : a0 = (a1 + 1)) : (-2147483648) ≤ (a0 * 64) := by omega
theorem om_213 {a0 a1 : Int} (h0 : (0 ≤ a1) ∧ (a1 ≤ 5)) (h1 : a0 = (a1 + 1)) : (a0 * 64) < 2147483648 := by omega
theorem om_214 {a0 : Int} (h0 : (0 ≤ a0) ∧ (a0 ≤ 5)) : 0 ≤ a0 := by omega
theorem om_215 {a0 : Int} (h0 : (0 ≤ a0) ∧ (a0 ≤ 5)) : a0 ≤ 5 := by omega
theorem om_216 {a0 : Int} (h0 : (0 ≤ a0) ∧ (a0 ≤ 63)) : 0 ≤ a0 := by omega
theorem om_217 {a0 : Int} (h0 : (0 ≤ a0) ∧ (a0 ≤ 63)) : a0 ≤ 63 := by omega
theorem om_218 {a0 : Int} (h0 : (1 ≤ a0) ∧ (a0 ≤ 32)) : 0 ≤ a0 := by omega
theorem om_219 {a0 : Int} (h0 : (1 ≤ a0) ∧ (a0 ≤ 32)) : a0 ≤ 63 := by omega
theorem om_220 {a0 a1 : Int} (h0 : (0 ≤ a1) ∧ (a1 ≤ 63)) (h1 : ((-2147483648) ≤ a0) ∧ (a0 < 2147483648)) : (-2147483648) ≤ (a0 + a1) := by omega
theorem om_221 {a0 a1 a2 : Int} (h0 : a0 = (a2 * 64)) (h1 : (0 ≤ a1) ∧ (a1 ≤ 63)) (h2 : ((-2147483648) ≤ a0) ∧ (a0 < 2147483648)) : (a0 + a1) < 2147483648 := by omega
theorem om_222 {a0 a1 a2 a3 a4 : Int} (h0 : (0 ≤ a1) ∧ (a1 ≤ 5)) (h1 : a2 = (a1 + 1)) (h2 : a3 = (a2 * 64)) (h3 : (0 ≤ a4) ∧ (a4 ≤ 63)) (h4 : a0 = (a3 + a4)) : 0 ≤ a0 := by omega
theorem om_223 {a0 a1 a2 a3 a4 : Int} (h0 : (0 ≤ a1) ∧ (a1 ≤ 5)) (h1 : a2 = (a1 + 1)) (h2 : a3 = (a2 * 64)) (h3 : (0 ≤ a4) ∧ (a4 ≤ 63)) (h4 : a0 = (a3 + a4)) : a0 < 448 := by omega
theorem om_224 {a0 : Int} (h0 : (0 ≤ a0) ∧ (a0 ≤ 6)) : (-2147483648) ≤ (a0 - 1) := by omega
theorem om_225 {a0 : Int} (h0 : (0 ≤ a0) ∧ (a0 ≤ 6)) : (a0 - 1) < 2147483648 := by omega
theorem om_226 {a0 : Int} (h0 : ¬ (a0 < 0)) : (-2147483648) ≤ (a0 + (-1)) := by omega
theorem om_227 {a0 : Int} (h0 : ((-2147483648) ≤ a0) ∧ (a0 ≤ 5)) : (a0 + (-1)) < 2147483648 := by omega
theorem om_228 {a0 a1 : Int} (h0 : ((-2147483648) ≤ a1) ∧ (a1 ≤ 5)) (h1 : a0 = (a1 + (-1))) : a0 ≤ 5 := by omega
theorem om_229 {a0 a2 : Int} {m1 : Nat} (h0 : ((a2 + 2147483648)).toNat < (m1 + 1)) (h1 : a0 = (a2 + (-1))) (h2 : ((-2147483648) ≤ a0) ∧ (a0 < 2147483648)) : ((a0 + 2147483648)).toNat < m1 := by omega
theorem om_230 {a0 : Int} (h0 : ¬ (a0 < 0)) : (-2147483648) ≤ (a0 + 1) := by omega
theorem om_231 {a0 : Int} (h0 : ((-2147483648) ≤ a0) ∧ (a0 ≤ 5)) : (a0 + 1) < 2147483648 := by omega
theorem om_232 {a0 a1 : Int} (h0 : ¬ (a1 < 0)) (h1 : a0 = (a1 + 1)) : (-2147483648) ≤ (a0 * 64) := by omega
theorem om_233 {a0 a1 : Int} (h0 : ((-2147483648) ≤ a1) ∧ (a1 ≤ 5)) (h1 : a0 = (a1 + 1)) : (a0 * 64) < 2147483648 := by omega
theorem om_234 {a0 a1 a2 : Int} (h0 : ¬ (64 ≤ a1)) (h1 : a0 = (a2 * 64)) (h2 : ((-2147483648) ≤ a0) ∧ (a0 < 2147483648)) : (a0 + a1) < 2147483648 := by omega
theorem om_235 {a0 a1 a2 a3 a4 : Int} (h0 : ¬ (a1 < 0)) (h1 : (0 ≤ a2) ∧ (a2 ≤ 2147483647)) (h2 : a3 = (a1 + 1)) (h3 : a4 = (a3 * 64)) (h4 : a0 = (a4 + a2)) : 0 ≤ a0 := by omega
theorem om_236 {a0 a1 a2 a3 a4 : Int} (h0 : ((-2147483648) ≤ a1) ∧ (a1 ≤ 5)) (h1 : ¬ (64 ≤ a2)) (h2 : a3 = (a1 + 1)) (h3 : a4 = (a3 * 64)) (h4 : a0 = (a4 + a2)) : a0 < 448 := by omega
theorem om_237 {a0 : Int} (h0 : ¬ (a0 < 0)) : (-2147483648) ≤ (a0 * 64) := by omega
theorem om_238 {a0 : Int} (h0 : ((-2147483648) ≤ a0) ∧ (a0 ≤ 5)) : (a0 * 64) < 2147483648 := by omega
theorem om_239 {a0 a1 a2 a3 : Int} (h0 : ¬ (a1 < 0)) (h1 : (0 ≤ a2) ∧ (a2 ≤ 2147483647)) (h2 : a3 = (a1 * 64)) (h3 : a0 = (a3 + a2)) : 0 ≤ a0 := by omega
theorem om_240 {a0 a1 a2 a3 : Int} (h0 : ((-2147483648) ≤ a1) ∧ (a1 ≤ 5)) (h1 : ¬ (64 ≤ a2)) (h2 : a3 = (a1 * 64)) (h3 : a0 = (a3 + a2)) : a0 < 448 := by omega
theorem om_241 {a0 : Int} (h0 : ((-2147483648) ≤ a0) ∧ (a0 ≤ 5)) : a0 ≤ 5 := by omega
theorem om_242 {a0 : Int} (h0 : ¬ (64 ≤ a0)) : a0 ≤ 63 := by omega
theorem om_243 {a0 a1 : Int} (h0 : (0 ≤ a1) ∧ (a1 ≤ 6)) (h1 : a0 = (a1 - 1)) : a0 ≤ 5 := by omega
theorem om_244 {a0 : Int} (h0 : (0 ≤ a0) ∧ (a0 ≤ 5)) : (-2147483648) ≤ (a0 * 64) := by omega
theorem om_245 {a0 : Int} (h0 : (0 ≤ a0) ∧ (a0 ≤ 5)) : (a0 * 64) < 2147483648 := by omega
theorem om_246 {a0 a1 a2 : Int} (h0 : (0 ≤ a1) ∧ (a1 ≤ 63)) (h1 : a0 = (a2 * 64)) (h2 : ((-2147483648) ≤ a0) ∧ (a0 < 2147483648)) : (a0 + a1) < 2147483648 := by omega
theorem om_247 {a0 a1 a2 a3 : Int} (h0 : (0 ≤ a1) ∧ (a1 ≤ 5)) (h1 : (0 ≤ a2) ∧ (a2 ≤ 63)) (h2 : a3 = (a1 * 64)) (h3 : a0 = (a3 + a2)) : 0 ≤ a0 := by omega
theorem om_248 {a0 a1 a2 a3 : Int} (h0 : (0 ≤ a1) ∧ (a1 ≤ 5)) (h1 : (0 ≤ a2) ∧ (a2 ≤ 63)) (h2 : a3 = (a1 * 64)) (h3 : a0 = (a3 + a2)) : a0 < 448 := by omega
theorem om_249 {a0 : Int} (h0 : (0 ≤ a0) ∧ (a0 ≤ 2147483647)) : (-1) ≤ a0 := by omega
theorem om_250 {a0 : Int} (h0 : ((-1) ≤ a0) ∧ (a0 ≤ 5)) (h1 : ¬ (a0 = (-1))) : 0 ≤ a0 := by omega
theorem om_251 {a0 : Int} (h0 : ((-1) ≤ a0) ∧ (a0 ≤ 5)) : a0 ≤ 5 := by omega
theorem om_252 {a0 : Int} (h0 : (0 ≤ a0) ∧ (a0 ≤ 2147483647)) : (-2147483648) ≤ (a0 - 20) := by omega
theorem om_253 {a0 : Int} (h0 : ¬ (40 < a0)) : (a0 - 20) < 2147483648 := by omega
theorem om_254 {a0 : Int} (h0 : ¬ (40 < a0)) : (a0 + 1) < 2147483648 := by omega
theorem om_255 {a0 a1 : Int} (h0 : ¬ (a0 < a1)) : (-2147483648) ≤ (a0 - a1) := by omega
theorem om_256 {a0 a1 : Int} (h0 : ¬ (40 < a0)) (h1 : (0 ≤ a1) ∧ (a1 ≤ 2147483647)) : (a0 - a1) < 2147483648 := by omega
theorem om_257 {a0 : Int} (h0 : ¬ (20 < a0)) : (a0 + 1) < 2147483648 := by omega
theorem om_258 {a0 a1 : Int} (h0 : ¬ (a1 ≤ a0)) (h1 : (0 ≤ a1) ∧ (a1 ≤ 6)) : (a0 + 1) < 2147483648 := by omega
theorem om_259 {a0 : Int} (h0 : (1 ≤ a0) ∧ (a0 ≤ 2147483647)) : (-2147483648) ≤ (a0 + 1) := by omega
theorem om_260 {a0 a1 : Int} (h0 : (1 ≤ a1) ∧ (a1 ≤ 2147483647)) (h1 : a0 = (a1 + 1)) : 1 ≤ a0 := by omega
theorem om_261 {a0 a1 : Int} (h0 : (0 ≤ a1) ∧ (a1 ≤ 2147483647)) (h1 : a0 = (a1 + 1)) : 1 ≤ a0 := by omega
theorem om_262 {a0 a1 : Int} (h0 : (0 ≤ a1) ∧ (a1 ≤ 63)) (h1 : ¬ (a1 < a0)) : (a0 + 1) < 2147483648 := by omega
theorem om_263 {a0 a2 a3 : Int} {m1 : Nat} (h0 : (0 ≤ a2) ∧ (a2 ≤ 63)) (h1 : ((2147483647 - a3)).toNat < (m1 + 1)) (h2 : ¬ (a2 < a3)) (h3 : a0 = (a3 + 1)) : ((2147483647 - a0)).toNat < m1 := by omega
theorem om_264 {a0 : Int} (h0 : (0 ≤ a0) ∧ (a0 < 64)) : 0 ≤ a0 := by omega
theorem om_265 {a0 : Int} (h0 : (0 ≤ a0) ∧ (a0 < 64)) : a0 < 64 := by omega
theorem om_266 {a0 : Int} (h0 : ¬ (64 ≤ a0)) : a0 < 64 := by omega
theorem om_267 {a0 : Int} (h0 : (1 ≤ a0) ∧ (a0 ≤ 2147483647)) : 0 ≤ a0 := by omega
theorem om_268 {a0 a1 : Int} (h0 : (0 ≤ a1) ∧ (a1 ≤ 6)) (h1 : ¬ (a1 < a0)) : (a0 + 1) < 2147483648 := by omega
theorem om_269 {a0 : Int} (h0 : a0 ≤ 20) : a0 < 21 := by omega
theorem om_270 {a0 : Int} (h0 : ¬ (30 < a0)) : (a0 + 1) < 2147483648 := by omega
theorem om_271 {a0 a1 a2 : Int} (h0 : ((-8) ≤ a2) ∧ (a2 ≤ 24)) (h1 : ((8 * a0) + a2) = ((8 * a1) + 24)) (h2 : a2 < 0) : a0 = (a1 + 4) := by omega
theorem om_272 {a0 a1 a2 : Int} (h0 : a1 ≤ 1596) (h1 : ((8 * a0) + a2) = ((8 * a1) + 24)) (h2 : ¬ (a2 < 0)) : a0 < 1600 := by omega
theorem om_273 {a0 : Int} (h0 : ((-8) ≤ a0) ∧ (a0 ≤ 24)) : (a0 + (-8)) < 2147483648 := by omega
theorem om_274 {a0 a1 a2 a3 : Int} (h0 : a1 ≤ 1596) (h1 : ((8 * a2) + a3) = ((8 * a1) + 24)) (h2 : ¬ (a3 < 0)) (h3 : a0 = (a2 + 1)) : a0 ≤ 1600 := by omega
theorem om_275 {a0 a1 : Int} (h0 : ¬ (a1 < 0)) (h1 : a0 = (a1 + (-8))) : (-8) ≤ a0 := by omega
theorem om_276 {a0 a1 : Int} (h0 : ((-8) ≤ a1) ∧ (a1 ≤ 24)) (h1 : a0 = (a1 + (-8))) : a0 ≤ 24 := by omega
theorem om_277 {a0 a1 a2 a3 a4 : Int} (h0 : ((8 * a3) + a4) = ((8 * a2) + 24)) (h1 : a0 = (a3 + 1)) (h2 : a1 = (a4 + (-8))) : ((8 * a0) + a1) = ((8 * a2) + 24) := by omega
theorem om_278 {a0 a2 : Int} {m1 : Nat} (h0 : ((a2 + 8)).toNat < (m1 + 1)) (h1 : ¬ (a2 < 0)) (h2 : a0 = (a2 + (-8))) : ((a0 + 8)).toNat < m1 := by omega
theorem om_279 {a0 a1 : Int} (h0 : a1 = 24) : ((8 * a0) + a1) = ((8 * a0) + 24) := by omega
theorem om_280 {a0 : Int} {m1 : Nat} (h0 : a0 = 24) : ((a0 + 8)).toNat < (4294967296 + m1) := by omega
theorem om_281 {a0 a1 : Int} (h0 : a1 = (a0 + 20)) (h1 : a1 ≤ 1600) : a0 ≤ 1596 := by omega
theorem om_282 {a0 a1 a2 : Int} (h0 : a1 = (a2 + 20)) (h1 : a1 ≤ 1600) (h2 : a0 = (a2 + 4)) : a0 ≤ 1596 := by omega
theorem om_283 {a0 a1 a2 a3 : Int} (h0 : a1 = (a2 + 20)) (h1 : a1 ≤ 1600) (h2 : a3 = (a2 + 4)) (h3 : a0 = (a3 + 4)) : a0 ≤ 1596 := by omega
theorem om_284 {a0 a1 a2 a3 a4 : Int} (h0 : a1 = (a2 + 20)) (h1 : a1 ≤ 1600) (h2 : a3 = (a2 + 4)) (h3 : a4 = (a3 + 4)) (h4 : a0 = (a4 + 4)) : a0 ≤ 1596 := by omega
theorem om_285 {a0 a1 a2 a3 a4 a5 : Int} (h0 : a1 = (a2 + 20)) (h1 : a1 ≤ 1600) (h2 : a3 = (a2 + 4)) (h3 : a4 = (a3 + 4)) (h4 : a5 = (a4 + 4)) (h5 : a0 = (a5 + 4)) : a0 ≤ 1596 := by omega
theorem om_286 {a0 a1 : Int} (h0 : (0 ≤ a1) ∧ (a1 ≤ 1600)) (h1 : (0 ≤ a0) ∧ (a0 ≤ 1600)) : (-2147483648) ≤ (a0 + a1) := by omega
theorem om_287 {a0 a1 : Int} (h0 : (0 ≤ a1) ∧ (a1 ≤ 1600)) (h1 : (0 ≤ a0) ∧ (a0 ≤ 1600)) : (a0 + a1) < 2147483648 := by omega
theorem om_288 {a0 a1 a2 a3 : Int} (h0 : a0 = -1) : (a0 < 0) ∨ ((a1 + a2) < a3) := by omega
theorem om_289 {a0 a1 a2 : Int} (h0 : (0 ≤ a1) ∧ (a1 ≤ 1600)) (h1 : (0 ≤ a2) ∧ (a2 ≤ 1600)) (h2 : a0 = (a2 + a1)) : 0 ≤ a0 := by omega
theorem om_290 {a0 a1 a2 a3 a4 : Int} (h0 : a4 = (a1 + a2)) (h1 : ¬ (a3 ≤ a4)) : (a0 < 0) ∨ ((a1 + a2) < a3) := by omega
theorem om_291 {a0 : Int} (h0 : ¬ (a0 < 97)) : 97 ≤ a0 := by omega
theorem om_292 {a0 : Int} (h0 : ¬ (a0 < 48)) : 48 ≤ a0 := by omega
theorem om_293 {a0 a1 a2 a3 a4 : Int} (h0 : (0 ≤ a1) ∧ (a1 ≤ 1600)) (h1 : (a2 < 0) ∨ ((a3 + a4) < a1)) (h2 : a2 = 32) (h3 : a0 = (a3 + 1)) (h4 : a4 = 0) : a0 ≤ 1600 := by omega
theorem om_294 {a0 a2 a3 a4 a5 : Int} {m1 : Nat} (h0 : ((1600 - a2)).toNat < (m1 + 1)) (h1 : (0 ≤ a3) ∧ (a3 ≤ 1600)) (h2 : (a4 < 0) ∨ ((a2 + a5) < a3)) (h3 : a4 = 32) (h4 : a0 = (a2 + 1)) (h5 : a5 = 0) : ((1600 - a0)).toNat < m1 := by omega
theorem om_295 {a0 : Int} (h0 : 8 ≤ a0) : (-2147483648) ≤ (a0 + 1) := by omega
theorem om_296 {a0 a1 : Int} (h0 : 8 ≤ a1) (h1 : a0 = (a1 + 1)) : 0 ≤ a0 := by omega
theorem om_297 {a0 a1 a2 a3 a4 : Int} (h0 : (0 ≤ a1) ∧ (a1 ≤ 1600)) (h1 : (0 ≤ a2) ∧ (a2 ≤ 1600)) (h2 : (a3 < 0) ∨ ((a1 + a4) < a2)) (h3 : 97 ≤ a3) (h4 : a0 = (a4 + 1)) : a0 ≤ 1600 := by omega
theorem om_298 {a0 a1 a2 a3 a4 : Int} (h0 : (a3 < 0) ∨ ((a0 + a4) < a2)) (h1 : 97 ≤ a3) (h2 : a1 = (a4 + 1)) : (a0 + a1) ≤ a2 := by omega
theorem om_299 {a0 : Int} (h0 : ¬ (8 ≤ a0)) : a0 ≤ 1600 := by omega
theorem om_300 {a0 : Int} (h0 : ¬ (8 ≤ a0)) : (a0 + 1) < 2147483648 := by omega
theorem om_301 {a0 a1 : Int} (h0 : ¬ (8 ≤ a1)) (h1 : a0 = (a1 + 1)) : a0 ≤ 1600 := by omega
theorem om_302 {a0 a1 : Int} (h0 : (0 ≤ a0) ∧ (a0 ≤ 1600)) (h1 : a1 ≤ 8) : (a0 + a1) < 2147483648 := by omega
theorem om_303 {a0 a1 a2 a3 a4 : Int} (h0 : (a1 + a2) ≤ a3) (h1 : a1 = a4) (h2 : (0 ≤ a3) ∧ (a3 ≤ 1600)) (h3 : a0 = (a4 + a2)) : a0 ≤ 1600 := by omega
theorem om_304 {a0 a1 a2 a3 : Int} (h0 : a0 ≤ a2) (h1 : (0 ≤ a3) ∧ (a3 ≤ 1600)) (h2 : a1 = (a2 + a3)) : a0 ≤ a1 := by omega
theorem om_305 {a0 a1 a2 a3 : Int} (h0 : a0 = 1) : (a0 = a1) ∨ ((a2 < a3) ∨ (¬ (a0 = 59))) := by omega
theorem om_306 {a0 a1 a2 : Int} (h0 : a0 ≤ a2) (h1 : a1 = a2) : a0 ≤ a1 := by omega
theorem om_307 {a0 a1 a2 a3 : Int} (h0 : a0 = 3) : (a0 = a1) ∨ ((a2 < a3) ∨ (¬ (a0 = 59))) := by omega
theorem om_308 {a0 : Int} (h0 : 4 ≤ a0) : (-2147483648) ≤ (a0 + 1) := by omega
theorem om_309 {a0 a1 : Int} (h0 : 4 ≤ a1) (h1 : a0 = (a1 + 1)) : 0 ≤ a0 := by omega
theorem om_310 {a0 a1 a2 a3 a4 : Int} (h0 : (0 ≤ a1) ∧ (a1 ≤ 1600)) (h1 : (0 ≤ a2) ∧ (a2 ≤ 1600)) (h2 : (a3 < 0) ∨ ((a1 + a4) < a2)) (h3 : 48 ≤ a3) (h4 : a0 = (a4 + 1)) : a0 ≤ 1600 := by omega
theorem om_311 {a0 a1 a2 a3 a4 : Int} (h0 : (a3 < 0) ∨ ((a0 + a4) < a2)) (h1 : 48 ≤ a3) (h2 : a1 = (a4 + 1)) : (a0 + a1) ≤ a2 := by omega
theorem om_312 {a0 : Int} (h0 : ¬ (4 ≤ a0)) : a0 ≤ 1600 := by omega
theorem om_313 {a0 : Int} (h0 : ¬ (4 ≤ a0)) : (a0 + 1) < 2147483648 := by omega
theorem om_314 {a0 a1 : Int} (h0 : ¬ (4 ≤ a1)) (h1 : a0 = (a1 + 1)) : a0 ≤ 1600 := by omega
theorem om_315 {a0 : Int} (h0 : ¬ (4 < a0)) : a0 ≤ 1600 := by omega
theorem om_316 {a0 a1 : Int} (h0 : (0 ≤ a0) ∧ (a0 ≤ 1600)) (h1 : ¬ (4 < a1)) : (a0 + a1) < 2147483648 := by omega
theorem om_317 {a0 a1 a2 a3 : Int} (h0 : a0 = 2) : (a0 = a1) ∨ ((a2 < a3) ∨ (¬ (a0 = 59))) := by omega
theorem om_318 {a0 a1 : Int} (h0 : a0 ≤ a1) : a0 ≤ a1 := by omega
theorem om_319 {a0 a1 a2 a3 a4 : Int} (h0 : (0 ≤ a1) ∧ (a1 ≤ 1600)) (h1 : (a2 < 0) ∨ ((a3 + a4) < a1)) (h2 : 0 ≤ a2) (h3 : a0 = (a3 + 1)) (h4 : a4 = 0) : a0 ≤ 1600 := by omega
theorem om_320 {a0 a1 a2 a3 a4 : Int} (h0 : a2 ≤ a4) (h1 : a3 = (a4 + 1)) : (a0 = a1) ∨ ((a2 < a3) ∨ (¬ (a0 = 59))) := by omega
theorem om_321 {a0 : Int} (h0 : (0 ≤ a0) ∧ (a0 ≤ 1600)) : (-2147483648) ≤ (a0 + 0) := by omega
theorem om_322 {a0 : Int} (h0 : (0 ≤ a0) ∧ (a0 ≤ 1600)) : (a0 + 0) < 2147483648 := by omega
theorem om_323 {a0 a1 : Int} (h0 : (0 ≤ a1) ∧ (a1 ≤ 1600)) (h1 : a0 = (a1 + 0)) : 0 ≤ a0 := by omega
theorem om_324 {a0 a1 : Int} (h0 : (0 ≤ a1) ∧ (a1 ≤ 1600)) (h1 : a0 = (a1 + 0)) : a0 ≤ 1600 := by omega
theorem om_325 {a0 a1 a2 : Int} (h0 : a0 ≤ a2) (h1 : a1 = (a2 + 0)) : a0 ≤ a1 := by omega
theorem om_326 {a0 a1 a2 a3 : Int} (h0 : a0 = 0) : (a0 = a1) ∨ ((a2 < a3) ∨ (¬ (a0 = 59))) := by omega
theorem om_327 {a0 a1 a2 a3 a4 : Int} (h0 : (0 ≤ a1) ∧ (a1 ≤ 1600)) (h1 : (a2 < 0) ∨ ((a3 + a4) < a1)) (h2 : a2 = 10) (h3 : a0 = (a3 + 1)) (h4 : a4 = 0) : a0 ≤ 1600 := by omega
theorem om_328 {a0 a2 a3 a4 a5 : Int} {m1 : Nat} (h0 : ((1600 - a2)).toNat < (m1 + 1)) (h1 : (0 ≤ a3) ∧ (a3 ≤ 1600)) (h2 : (a4 < 0) ∨ ((a2 + a5) < a3)) (h3 : a4 = 10) (h4 : a0 = (a2 + 1)) (h5 : a5 = 0) : ((1600 - a0)).toNat < m1 := by omega
theorem om_329 {a0 : Int} : a0 ≤ a0 := by omega
theorem om_330 {a0 : Int} {m1 : Nat} (h0 : ((-2147483648) ≤ a0) ∧ (a0 < 2147483648)) : ((1600 - a0)).toNat < (4294967296 + m1) := by omega
theorem om_331 {a0 : Int} (h0 : (1 ≤ a0) ∧ (a0 ≤ 4)) : 0 ≤ a0 := by omega
theorem om_332 {a0 : Int} (h0 : (1 ≤ a0) ∧ (a0 ≤ 4)) : a0 ≤ 4 := by omega
theorem om_333 {a0 a1 : Int} : (a0 = a0) ∨ ((a1 < a1) ∨ (¬ (a0 = 59))) := by omega
theorem om_334 {a0 : Int} (h0 : (1 ≤ a0) ∧ (a0 ≤ 4)) : 0 < a0 := by omega
theorem om_335 {a0 : Int} (h0 : a0 = 1) : 0 < a0 := by omega
theorem om_336 {a0 : Int} (h0 : ¬ (a0 ≤ 0)) : 0 < a0 := by omega
theorem om_337 {a0 : Int} (h0 : a0 = 1) : a0 = 1 := by omega
theorem om_338 {a0 : Int} (h0 : (0 ≤ a0) ∧ (a0 ≤ 31)) : (-2147483648) ≤ (a0 + 1) := by omega
theorem om_339 {a0 : Int} (h0 : a0 ≤ 30) : (a0 + 1) < 2147483648 := by omega
theorem om_340 {a0 a1 : Int} (h0 : (0 ≤ a1) ∧ (a1 ≤ 31)) (h1 : a0 = (a1 + 1)) : 0 ≤ a0 := by omega
theorem om_341 {a0 a1 : Int} (h0 : a1 ≤ 30) (h1 : a0 = (a1 + 1)) : a0 ≤ 31 := by omega
theorem om_342 {a0 a1 : Int} (h0 : a0 = (a1 + 1)) : a0 = (a1 + 1) := by omega
theorem om_343 {a0 : Int} (h0 : (0 ≤ a0) ∧ (a0 ≤ 320)) : 0 ≤ a0 := by omega
theorem om_344 {a0 : Int} (h0 : a0 ≤ 319) : a0 < 320 := by omega
theorem om_345 {a0 : Int} (h0 : (0 ≤ a0) ∧ (a0 ≤ 320)) : (-2147483648) ≤ (a0 + 1) := by omega
theorem om_346 {a0 : Int} (h0 : a0 ≤ 319) : (a0 + 1) < 2147483648 := by omega
theorem om_347 {a0 a1 : Int} (h0 : (0 ≤ a1) ∧ (a1 ≤ 320)) (h1 : a0 = (a1 + 1)) : 0 ≤ a0 := by omega
theorem om_348 {a0 a1 : Int} (h0 : a1 ≤ 319) (h1 : a0 = (a1 + 1)) : a0 ≤ 320 := by omega
theorem om_349 {a0 : Int} (h0 : ¬ (a0 = 30)) : ¬ (a0 = 30) := by omega
theorem om_350 {a0 : Int} (h0 : (0 ≤ a0) ∧ (a0 ≤ 160)) : 0 ≤ a0 := by omega
theorem om_351 {a0 : Int} (h0 : a0 ≤ 159) : a0 < 160 := by omega
theorem om_352 {a0 : Int} (h0 : (0 ≤ a0) ∧ (a0 ≤ 160)) : (-2147483648) ≤ (a0 + 1) := by omega
theorem om_353 {a0 : Int} (h0 : a0 ≤ 159) : (a0 + 1) < 2147483648 := by omega
theorem om_354 {a0 : Int} (h0 : (0 ≤ a0) ∧ (a0 ≤ 8)) : (-2147483648) ≤ (a0 + 1) := by omega
theorem om_355 {a0 : Int} (h0 : a0 ≤ 7) : (a0 + 1) < 2147483648 := by omega
theorem om_356 {a0 a1 : Int} (h0 : (0 ≤ a1) ∧ (a1 ≤ 160)) (h1 : a0 = (a1 + 1)) : 0 ≤ a0 := by omega
theorem om_357 {a0 a1 : Int} (h0 : a1 ≤ 159) (h1 : a0 = (a1 + 1)) : a0 ≤ 160 := by omega
theorem om_358 {a0 a1 : Int} (h0 : (0 ≤ a1) ∧ (a1 ≤ 8)) (h1 : a0 = (a1 + 1)) : 0 ≤ a0 := by omega
theorem om_359 {a0 a1 : Int} (h0 : a1 ≤ 7) (h1 : a0 = (a1 + 1)) : a0 ≤ 8 := by omega
theorem om_360 {a0 a1 a2 : Int} (h0 : a2 = (a1 + 1)) (h1 : a0 = a2) : a0 = (a1 + 1) := by omega
theorem om_361 {a0 : Int} (h0 : (0 ≤ a0) ∧ (a0 ≤ 160)) : (-2147483648) ≤ (a0 - 1) := by omega
theorem om_362 {a0 : Int} (h0 : (0 ≤ a0) ∧ (a0 ≤ 160)) : (a0 - 1) < 2147483648 := by omega
theorem om_363 {a0 a1 : Int} (h0 : (0 ≤ a1) ∧ (a1 ≤ 160)) (h1 : ¬ (a1 = 0)) (h2 : a0 = (a1 - 1)) : 0 ≤ a0 := by omega
theorem om_364 {a0 a1 : Int} (h0 : (0 ≤ a1) ∧ (a1 ≤ 160)) (h1 : a0 = (a1 - 1)) : a0 < 160 := by omega
theorem om_365 {a0 a1 a2 a3 : Int} (h0 : (a1 + a2) ≤ ((10 * a3) + 1)) (h1 : a3 ≤ 30) (h2 : (0 ≤ a2) ∧ (a2 ≤ 160)) (h3 : a0 = a1) : a0 ≤ 319 := by omega
theorem om_366 {a0 a1 a3 : Int} {m2 : Nat} (h0 : (0 ≤ a3) ∧ (a3 ≤ 1)) (h1 : (((2 * (9 - a0)) + a3)).toNat < (m2 + 1)) (h2 : (0 ≤ a0) ∧ (a0 ≤ 8)) (h3 : ¬ (a3 = 0)) (h4 : a1 = 0) : (((2 * (9 - a0)) + a1)).toNat < m2 := by omega
theorem om_367 {a0 : Int} (h0 : (0 ≤ a0) ∧ (a0 ≤ 1)) : 0 ≤ a0 := by omega
theorem om_368 {a0 : Int} (h0 : (0 ≤ a0) ∧ (a0 ≤ 1)) : a0 ≤ 1 := by omega
theorem om_369 {a0 a1 a2 a3 a4 : Int} (h0 : a0 ≤ a2) (h1 : a3 = a2) (h2 : a4 = (a3 + 1)) (h3 : a1 = a4) : a0 ≤ a1 := by omega
theorem om_370 {a0 a1 a3 a4 : Int} {m2 : Nat} (h0 : (0 ≤ a1) ∧ (a1 ≤ 1)) (h1 : (((2 * (9 - a3)) + a1)).toNat < (m2 + 1)) (h2 : a4 = a3) (h3 : (0 ≤ a0) ∧ (a0 ≤ 8)) (h4 : a0 = (a4 + 1)) : (((2 * (9 - a0)) + a1)).toNat < m2 := by omega
theorem om_371 {a0 a1 : Int} (h0 : a1 ≤ 6) (h1 : a0 = a1) : a0 ≤ 7 := by omega
theorem om_372 {a0 a1 a2 a3 : Int} (h0 : a0 ≤ a2) (h1 : a3 = (a2 + 1)) (h2 : a1 = a3) : a0 ≤ a1 := by omega
theorem om_373 {a0 a1 a3 a4 : Int} {m2 : Nat} (h0 : (0 ≤ a1) ∧ (a1 ≤ 1)) (h1 : (((2 * (9 - a3)) + a1)).toNat < (m2 + 1)) (h2 : a3 ≤ 6) (h3 : a4 = a3) (h4 : a0 = (a4 + 1)) : (((2 * (9 - a0)) + a1)).toNat < m2 := by omega
theorem om_374 {a0 : Int} (h0 : a0 ≤ 6) : a0 ≤ 7 := by omega
theorem om_375 {a0 a1 a3 : Int} {m2 : Nat} (h0 : (0 ≤ a1) ∧ (a1 ≤ 1)) (h1 : (((2 * (9 - a3)) + a1)).toNat < (m2 + 1)) (h2 : (0 ≤ a0) ∧ (a0 ≤ 8)) (h3 : a0 = (a3 + 1)) : (((2 * (9 - a0)) + a1)).toNat < m2 := by omega
theorem om_376 {a0 a1 : Int} {m2 : Nat} (h0 : (0 ≤ a0) ∧ (a0 ≤ 8)) (h1 : a1 = 1) : (((2 * (9 - a0)) + a1)).toNat < (4294967296 + m2) := by omega
theorem om_377 {a0 a1 a2 a3 : Int} (h0 : (a0 + a1) = (a2 + a3)) : (a0 + a1) = (a2 + a3) := by omega
theorem om_378 {a0 a1 a2 a3 : Int} (h0 : (a0 - a1) ≤ (a2 - a3)) : (a0 - a1) ≤ (a2 - a3) := by omega
theorem om_379 {a0 a1 : Int} (h0 : (0 ≤ a1) ∧ (a1 ≤ 160)) (h1 : a0 ≤ 0) : a0 ≤ a1 := by omega
theorem om_380 {a0 : Int} (h0 : ¬ (a0 ≤ 0)) : (-2147483648) ≤ (a0 - 1) := by omega
theorem om_381 {a0 a1 : Int} (h0 : ¬ (a1 ≤ 0)) (h1 : a0 = (a1 - 1)) : 0 ≤ a0 := by omega
theorem om_382 {a0 a1 : Int} (h0 : (0 ≤ a1) ∧ (a1 ≤ 160)) (h1 : a0 = (a1 - 1)) : a0 ≤ 160 := by omega
theorem om_383 {a0 a1 a2 a3 : Int} (h0 : (a1 + a2) ≤ 310) (h1 : (a0 + a3) = (a1 + a2)) (h2 : ¬ (a3 ≤ 0)) : a0 ≤ 319 := by omega
theorem om_384 {a0 a1 a2 a3 a4 a5 a6 : Int} (h0 : (a4 + a5) = (a2 + a3)) (h1 : a6 = (a5 - 1)) (h2 : a0 = (a4 + 1)) (h3 : a1 = a6) : (a0 + a1) = (a2 + a3) := by omega
theorem om_385 {a0 a1 a2 a3 a4 a5 a6 : Int} (h0 : (a4 - a5) ≤ (a2 - a3)) (h1 : a6 = (a4 - 1)) (h2 : a0 = a6) (h3 : a1 = a5) : (a0 - a1) ≤ (a2 - a3) := by omega
theorem om_386 {a0 a1 a2 a3 : Int} (h0 : a2 ≤ a1) (h1 : a3 = (a2 - 1)) (h2 : a0 = a3) : a0 ≤ a1 := by omega
theorem om_387 {a0 a1 a2 : Int} (h0 : a2 ≤ a1) (h1 : a0 = a2) : a0 ≤ a1 := by omega
theorem om_388 {a0 a2 a3 : Int} {m1 : Nat} (h0 : (a2).toNat < (m1 + 1)) (h1 : ¬ (a2 ≤ 0)) (h2 : a3 = (a2 - 1)) (h3 : a0 = a3) : (a0).toNat < m1 := by omega
theorem om_389 {a0 : Int} (h0 : (0 ≤ a0) ∧ (a0 ≤ 8)) : (-2147483648) ≤ (a0 - 1) := by omega
theorem om_390 {a0 : Int} (h0 : (0 ≤ a0) ∧ (a0 ≤ 8)) : (a0 - 1) < 2147483648 := by omega
theorem om_391 {a0 a1 : Int} (h0 : (0 ≤ a1) ∧ (a1 ≤ 8)) (h1 : a0 = (a1 - 1)) : a0 ≤ 8 := by omega
theorem om_392 {a0 a1 a2 a3 a4 a5 a6 : Int} (h0 : (a4 - a5) ≤ (a2 - a3)) (h1 : a6 = (a4 - 1)) (h2 : a0 = a6) (h3 : a1 = (a5 - 1)) : (a0 - a1) ≤ (a2 - a3) := by omega
theorem om_393 {a0 a1 a2 : Int} (h0 : a2 ≤ a1) (h1 : a0 = (a2 - 1)) : a0 ≤ a1 := by omega
theorem om_394 {a0 a1 : Int} : (a0 + a1) = (a0 + a1) := by omega
theorem om_395 {a0 a1 : Int} : (a0 - a1) ≤ (a0 - a1) := by omega
theorem om_396 {a0 : Int} {m1 : Nat} (h0 : (0 ≤ a0) ∧ (a0 ≤ 160)) : (a0).toNat < (4294967296 + m1) := by omega
theorem om_397 {a0 a1 : Int} (h0 : (0 ≤ a1) ∧ (a1 ≤ 160)) (h1 : ¬ (a1 ≤ a0)) : (a0 + 1) < 2147483648 := by omega
theorem om_398 {a0 a1 : Int} (h0 : (0 ≤ a1) ∧ (a1 ≤ 160)) (h1 : ¬ (a1 ≤ a0)) : a0 < 160 := by omega
theorem om_399 {a0 : Int} (h0 : a0 = 38) : (a0 = 0) ∨ (37 ≤ a0) := by omega
theorem om_400 {a0 : Int} (h0 : a0 = 124) : (a0 = 0) ∨ (37 ≤ a0) := by omega
theorem om_401 {a0 : Int} (h0 : a0 = 60) : 0 ≤ a0 := by omega
theorem om_402 {a0 : Int} (h0 : a0 = 60) : a0 ≤ 124 := by omega
theorem om_403 {a0 : Int} (h0 : a0 = 60) : (a0 = 0) ∨ (37 ≤ a0) := by omega
theorem om_404 {a0 : Int} (h0 : a0 = 62) : 0 ≤ a0 := by omega
theorem om_405 {a0 : Int} (h0 : a0 = 62) : a0 ≤ 124 := by omega
theorem om_406 {a0 : Int} (h0 : a0 = 62) : (a0 = 0) ∨ (37 ≤ a0) := by omega
theorem om_407 {a0 : Int} (h0 : a0 = 61) : 0 ≤ a0 := by omega
theorem om_408 {a0 : Int} (h0 : a0 = 61) : a0 ≤ 124 := by omega
theorem om_409 {a0 : Int} (h0 : a0 = 61) : (a0 = 0) ∨ (37 ≤ a0) := by omega
theorem om_410 {a0 : Int} (h0 : a0 = 43) : 0 ≤ a0 := by omega
theorem om_411 {a0 : Int} (h0 : a0 = 43) : a0 ≤ 124 := by omega
theorem om_412 {a0 : Int} (h0 : a0 = 43) : (a0 = 0) ∨ (37 ≤ a0) := by omega
theorem om_413 {a0 : Int} (h0 : a0 = 45) : 0 ≤ a0 := by omega
theorem om_414 {a0 : Int} (h0 : a0 = 45) : a0 ≤ 124 := by omega
theorem om_415 {a0 : Int} (h0 : a0 = 45) : (a0 = 0) ∨ (37 ≤ a0) := by omega
theorem om_416 {a0 : Int} (h0 : a0 = 42) : 0 ≤ a0 := by omega
theorem om_417 {a0 : Int} (h0 : a0 = 42) : a0 ≤ 124 := by omega
theorem om_418 {a0 : Int} (h0 : a0 = 42) : (a0 = 0) ∨ (37 ≤ a0) := by omega
theorem om_419 {a0 : Int} (h0 : a0 = 47) : 0 ≤ a0 := by omega
theorem om_420 {a0 : Int} (h0 : a0 = 47) : a0 ≤ 124 := by omega
theorem om_421 {a0 : Int} (h0 : a0 = 47) : (a0 = 0) ∨ (37 ≤ a0) := by omega
theorem om_422 {a0 : Int} (h0 : a0 = 0) : (a0 = 0) ∨ (37 ≤ a0) := by omega
theorem om_423 {a0 : Int} (h0 : a0 = 37) : 0 ≤ a0 := by omega
theorem om_424 {a0 : Int} (h0 : a0 = 37) : a0 ≤ 124 := by omega
theorem om_425 {a0 : Int} (h0 : a0 = 37) : (a0 = 0) ∨ (37 ≤ a0) := by omega
theorem om_426 {a0 : Int} (h0 : a0 < 0) : a0 < 160 := by omega
theorem om_427 {a0 : Int} (h0 : ((-2147483648) ≤ a0) ∧ (a0 ≤ 159)) : a0 < 160 := by omega
theorem om_428 {a0 : Int} (h0 : ((-2147483648) ≤ a0) ∧ (a0 ≤ 159)) : (a0 + (-1)) < 2147483648 := by omega
theorem om_429 {a0 a1 : Int} (h0 : ((-2147483648) ≤ a1) ∧ (a1 ≤ 159)) (h1 : a0 = (a1 + (-1))) : a0 ≤ 159 := by omega
theorem om_430 {a0 a1 : Int} (h0 : (0 ≤ a1) ∧ (a1 ≤ 160)) (h1 : a0 = (a1 - 1)) : a0 ≤ 159 := by omega
theorem om_431 {a0 : Int} {m1 : Nat} (h0 : ((-2147483648) ≤ a0) ∧ (a0 < 2147483648)) : ((a0 + 2147483648)).toNat < (4294967296 + m1) := by omega
theorem om_432 {a0 a1 a2 a3 a5 : Int} {m4 : Nat} (h0 : (0 ≤ a5) ∧ (a5 ≤ 1)) (h1 : (((((1 + (100 * (31 - a0))) + (2 * a1)) + a5) - (100000 * a3))).toNat < (m4 + 1)) (h2 : (0 ≤ a1) ∧ (a1 ≤ 160)) (h3 : (0 ≤ a0) ∧ (a0 ≤ 31)) (h4 : ¬ (a5 = 0)) (h5 : a3 = 0) (h6 : a2 = 0) : (((((1 + (100 * (31 - a0))) + (2 * a1)) + a2) - (100000 * a3))).toNat < m4 := by omega
theorem om_433 {a0 : Int} (h0 : (1 ≤ a0) ∧ (a0 ≤ 6)) : 0 ≤ a0 := by omega
theorem om_434 {a0 : Int} (h0 : (1 ≤ a0) ∧ (a0 ≤ 6)) : a0 ≤ 6 := by omega
theorem om_435 {a0 : Int} (h0 : (0 ≤ a0) ∧ (a0 ≤ 160)) : (a0 + 1) < 2147483648 := by omega
theorem om_436 {a0 : Int} (h0 : 1 ≤ a0) : (-2147483648) ≤ (a0 - 1) := by omega
theorem om_437 {a0 : Int} (h0 : 0 ≤ (a0 - 1)) : (-2147483648) ≤ (a0 - 1) := by omega
theorem om_438 {a0 a1 : Int} (h0 : 1 ≤ a1) (h1 : a0 = (a1 - 1)) : 0 ≤ a0 := by omega
theorem om_439 {a0 a1 : Int} (h0 : 0 ≤ (a1 - 1)) (h1 : a0 = (a1 - 1)) : 0 ≤ a0 := by omega
theorem om_440 {a0 a1 a2 a3 a5 a6 a7 a8 a9 : Int} {m4 : Nat} (h0 : (0 ≤ a2) ∧ (a2 ≤ 1)) (h1 : (((((1 + (100 * (31 - a5))) + (2 * a6)) + a2) - (100000 * a7))).toNat < (m4 + 1)) (h2 : (0 ≤ a6) ∧ (a6 ≤ 160)) (h3 : (0 ≤ a5) ∧ (a5 ≤ 31)) (h4 : a7 = 0) (h5 : a8 ≤ a6) (h6 : a9 = (a8 - 1)) (h7 : a3 = a7) (h8 : a1 = a9) (h9 : a0 = a5) : (((((1 + (100 * (31 - a0))) + (2 * a1)) + a2) - (100000 * a3))).toNat < m4 := by omega
theorem om_441 {a0 a1 a2 a3 : Int} {m4 : Nat} (h0 : (0 ≤ a3) ∧ (a3 ≤ 4)) (h1 : (0 ≤ a1) ∧ (a1 ≤ 160)) (h2 : (0 ≤ a0) ∧ (a0 ≤ 31)) (h3 : a2 = 1) : (((((1 + (100 * (31 - a0))) + (2 * a1)) + a2) - (100000 * a3))).toNat < (4294967296 + m4) := by omega
theorem om_442 {a0 a1 : Int} (h0 : (0 ≤ a0) ∧ (a0 ≤ 6)) (h1 : (0 ≤ a1) ∧ (a1 ≤ 5)) : (-2147483648) ≤ (a0 + a1) := by omega
theorem om_443 {a0 a1 : Int} (h0 : (0 ≤ a0) ∧ (a0 ≤ 6)) (h1 : (0 ≤ a1) ∧ (a1 ≤ 5)) : (a0 + a1) < 2147483648 := by omega
theorem om_444 {a0 a1 a2 : Int} (h0 : (0 ≤ a1) ∧ (a1 ≤ 6)) (h1 : (0 ≤ a2) ∧ (a2 ≤ 5)) (h2 : a0 = (a1 + a2)) : 0 ≤ a0 := by omega
theorem om_445 {a0 a1 a2 : Int} (h0 : (0 ≤ a1) ∧ (a1 ≤ 6)) (h1 : (0 ≤ a2) ∧ (a2 ≤ 5)) (h2 : a0 = (a1 + a2)) : a0 < 12 := by omega
theorem om_446 {a0 a1 : Int} (h0 : (0 ≤ a0) ∧ (a0 ≤ 6)) (h1 : (0 ≤ a1) ∧ (a1 ≤ 2147483647)) : (-2147483648) ≤ (a0 + a1) := by omega
theorem om_447 {a0 a1 a2 : Int} (h0 : (0 ≤ a0) ∧ (a0 ≤ 6)) (h1 : (0 ≤ a2) ∧ (a2 ≤ 5)) (h2 : ¬ (a2 ≤ a1)) : (a0 + a1) < 2147483648 := by omega
theorem om_448 {a0 a1 a2 : Int} (h0 : (0 ≤ a1) ∧ (a1 ≤ 6)) (h1 : (0 ≤ a2) ∧ (a2 ≤ 2147483647)) (h2 : a0 = (a1 + a2)) : 0 ≤ a0 := by omega
theorem om_449 {a0 a1 a2 a3 : Int} (h0 : (0 ≤ a1) ∧ (a1 ≤ 6)) (h1 : (0 ≤ a2) ∧ (a2 ≤ 5)) (h2 : ¬ (a2 ≤ a3)) (h3 : a0 = (a1 + a3)) : a0 < 12 := by omega
theorem om_450 {a0 a1 : Int} (h0 : (0 ≤ a1) ∧ (a1 ≤ 5)) (h1 : ¬ (a1 ≤ a0)) : (a0 + 1) < 2147483648 := by omega
theorem om_451 {a0 : Int} (h0 : a0 ≤ 5) : a0 ≤ 5 := by omega
theorem om_452 {a0 : Int} (h0 : a0 ≤ 5) : a0 < 6 := by omega
theorem om_453 {a0 : Int} (h0 : a0 ≤ 5) : (a0 + 1) < 2147483648 := by omega
theorem om_454 {a0 a1 : Int} (h0 : a1 ≤ 5) (h1 : a0 = (a1 + 1)) : a0 ≤ 6 := by omega
theorem om_455 {a0 : Int} (h0 : ¬ (6 ≤ a0)) : a0 ≤ 5 := by omega
theorem om_456 {a0 : Int} (h0 : a0 = 0) : a0 = 0 := by omega
theorem om_457 {a0 : Int} (h0 : (0 ≤ a0) ∧ (a0 ≤ 4)) (h1 : a0 = 0) : a0 = 0 := by omega
theorem om_458 {a0 : Int} (h0 : (0 ≤ a0) ∧ (a0 ≤ 2147483647)) : (-2147483648) ≤ (12 + a0) := by omega
theorem om_459 {a0 a1 : Int} (h0 : (0 ≤ a1) ∧ (a1 ≤ 6)) (h1 : ¬ (a1 ≤ a0)) : (12 + a0) < 2147483648 := by omega
theorem om_460 {a0 a1 : Int} (h0 : (0 ≤ a1) ∧ (a1 ≤ 6)) (h1 : ¬ (a1 ≤ a0)) : a0 < 6 := by omega
theorem om_461 {a0 a1 : Int} (h0 : (0 ≤ a1) ∧ (a1 ≤ 2147483647)) (h1 : a0 = (12 + a1)) : 0 ≤ a0 := by omega
theorem om_462 {a0 a1 a2 : Int} (h0 : (0 ≤ a1) ∧ (a1 ≤ 6)) (h1 : ¬ (a1 ≤ a2)) (h2 : a0 = (12 + a2)) : a0 < 39 := by omega
theorem om_463 {a0 : Int} (h0 : (0 ≤ a0) ∧ (a0 ≤ 2147483647)) : (-2147483648) ≤ (18 + a0) := by omega
theorem om_464 {a0 a1 : Int} (h0 : (0 ≤ a1) ∧ (a1 ≤ 6)) (h1 : ¬ (a1 ≤ a0)) : (18 + a0) < 2147483648 := by omega
theorem om_465 {a0 a1 : Int} (h0 : (0 ≤ a1) ∧ (a1 ≤ 2147483647)) (h1 : a0 = (18 + a1)) : 0 ≤ a0 := by omega
theorem om_466 {a0 a1 a2 : Int} (h0 : (0 ≤ a1) ∧ (a1 ≤ 6)) (h1 : ¬ (a1 ≤ a2)) (h2 : a0 = (18 + a2)) : a0 < 39 := by omega
theorem om_467 {a0 : Int} (h0 : (0 ≤ a0) ∧ (a0 ≤ 2147483647)) : (-2147483648) ≤ (24 + a0) := by omega
theorem om_468 {a0 a1 : Int} (h0 : (0 ≤ a1) ∧ (a1 ≤ 6)) (h1 : ¬ (a1 ≤ a0)) : (24 + a0) < 2147483648 := by omega
theorem om_469 {a0 a1 : Int} (h0 : (0 ≤ a1) ∧ (a1 ≤ 2147483647)) (h1 : a0 = (24 + a1)) : 0 ≤ a0 := by omega
theorem om_470 {a0 a1 a2 : Int} (h0 : (0 ≤ a1) ∧ (a1 ≤ 6)) (h1 : ¬ (a1 ≤ a2)) (h2 : a0 = (24 + a2)) : a0 < 39 := by omega
theorem om_471 {a0 : Int} (h0 : (0 ≤ a0) ∧ (a0 ≤ 2147483647)) : (-2147483648) ≤ (30 + a0) := by omega
theorem om_472 {a0 a1 : Int} (h0 : (0 ≤ a1) ∧ (a1 ≤ 6)) (h1 : ¬ (a1 ≤ a0)) : (30 + a0) < 2147483648 := by omega
theorem om_473 {a0 a1 : Int} (h0 : (0 ≤ a1) ∧ (a1 ≤ 2147483647)) (h1 : a0 = (30 + a1)) : 0 ≤ a0 := by omega
theorem om_474 {a0 a1 a2 : Int} (h0 : (0 ≤ a1) ∧ (a1 ≤ 6)) (h1 : ¬ (a1 ≤ a2)) (h2 : a0 = (30 + a2)) : a0 < 39 := by omega
theorem om_475 {a0 a1 : Int} (h0 : (0 ≤ a1) ∧ (a1 ≤ 6)) (h1 : ¬ (a1 ≤ a0)) : a0 < 39 := by omega
theorem om_476 {a0 a1 : Int} (h0 : (0 ≤ a1) ∧ (a1 ≤ 6)) (h1 : ¬ (a1 ≤ a0)) : (6 + a0) < 2147483648 := by omega
theorem om_477 {a0 a1 a2 : Int} (h0 : (0 ≤ a1) ∧ (a1 ≤ 6)) (h1 : ¬ (a1 ≤ a2)) (h2 : a0 = (6 + a2)) : a0 < 39 := by omega
theorem om_478 {a1 : Int} {m0 : Nat} (h0 : a1 = -1) : (m0 < 6) ∨ ((12 ≤ m0) ∨ (((-1) ≤ a1) ∧ (a1 ≤ 5))) := by omega
theorem om_479 {a0 : Int} (h0 : ¬ (39 ≤ a0)) : a0 < 39 := by omega
theorem om_480 {a1 : Int} {m0 : Nat} (h0 : a1 = 0) : (m0 < 6) ∨ ((12 ≤ m0) ∨ (((-1) ≤ a1) ∧ (a1 ≤ 5))) := by omega
theorem om_481 {a0 : Int} (h0 : ¬ (39 ≤ a0)) : (a0 + 1) < 2147483648 := by omega
theorem om_482 {a0 : Int} (h0 : ¬ (39 ≤ a0)) : (a0).toNat < 39 := by omega
theorem om_483 {a1 : Int} {m0 : Nat} (h0 : (m0 < 6) ∨ ((12 ≤ m0) ∨ (((-1) ≤ a1) ∧ (a1 ≤ 5)))) : (m0 < 6) ∨ ((12 ≤ m0) ∨ (((-1) ≤ a1) ∧ (a1 ≤ 5))) := by omega
theorem om_484 {a0 a1 : Int} (h0 : a1 = 0) (h1 : a0 = a1) : a0 = 0 := by omega
theorem om_485 {a0 : Int} (h0 : ¬ (3 ≤ a0)) : a0 < 3 := by omega
theorem om_486 {a0 : Int} (h0 : ¬ (3 ≤ a0)) : (a0 + 1) < 2147483648 := by omega
theorem om_487 {a0 : Int} (h0 : a0 = 0) : (a0 + a0) ≤ 40 := by omega
theorem om_488 {a0 : Int} (h0 : ¬ (0 ≤ a0)) : a0 < 320 := by omega
theorem om_489 {a0 : Int} (h0 : ¬ (0 ≤ a0)) : (a0 + 1) < 2147483648 := by omega
theorem om_490 {a0 a1 : Int} (h0 : (0 ≤ a1) ∧ (a1 ≤ 320)) (h1 : ¬ (a1 ≤ a0)) : a0 < 320 := by omega
theorem om_491 {a0 a1 : Int} (h0 : (0 ≤ a1) ∧ (a1 ≤ 320)) (h1 : ¬ (a1 ≤ a0)) : (a0 + 1) < 2147483648 := by omega
theorem om_492 {a0 : Int} (h0 : (0 ≤ a0) ∧ (a0 ≤ 320)) : a0 ≤ 320 := by omega
theorem om_493 {a0 : Int} (h0 : (0 ≤ a0) ∧ (a0 ≤ 1600)) (h1 : a0 = 0) : a0 = 0 := by omega
theorem om_494 {a0 a1 : Int} (h0 : ¬ (a1 < a0)) : a0 ≤ a1 := by omega
theorem om_495 {a0 : Int} (h0 : (0 ≤ a0) ∧ (a0 ≤ 30)) (h1 : ¬ (a0 = 30)) : a0 < 30 := by omega
theorem om_496 {a0 a1 a2 : Int} (h0 : a1 ≤ a0) (h1 : a0 ≤ a2) (h2 : a1 = 0) (h3 : a2 = 20) : (0 ≤ a0) ∧ (a0 ≤ 20) := by omega
theorem om_497 {a0 : Int} (h0 : (0 ≤ a0) ∧ (a0 ≤ 30)) : (a0 + 1) < 2147483648 := by omega
theorem om_498 {a0 a1 : Int} (h0 : (0 ≤ a1) ∧ (a1 ≤ 30)) (h1 : ¬ (a1 = 30)) (h2 : a0 = (a1 + 1)) : a0 ≤ 30 := by omega
theorem om_499 {a0 : Int} (h0 : (0 ≤ a0) ∧ (a0 ≤ 30)) : (-2147483648) ≤ (a0 - 1) := by omega
theorem om_500 {a0 a1 : Int} (h0 : a1 ≤ a0) (h1 : a1 = 0) : 0 ≤ a0 := by omega
theorem om_501 {a0 a1 a2 : Int} (h0 : (0 ≤ a1) ∧ (a1 ≤ 30)) (h1 : a2 = (a1 - 1)) (h2 : a0 ≤ a2) : a0 < 30 := by omega
theorem om_502 {a0 : Int} (h0 : (1 ≤ a0) ∧ (a0 ≤ 2147483647)) : 1 ≤ a0 := by omega
theorem om_503 {a0 : Int} (h0 : (1 ≤ a0) ∧ (a0 ≤ 2147483647)) : a0 ≤ 2147483647 := by omega
theorem om_504 {a0 : Int} (h0 : ¬ (a0 ≤ 0)) : ¬ (a0 = 0) := by omega
theorem om_505 {a0 : Int} (h0 : ¬ (a0 ≤ 0)) : 1 ≤ a0 := by omega
theorem om_506 {a0 a2 : Int} {m1 : Nat} (h0 : (a2).toNat < (m1 + 1)) (h1 : (0 ≤ a0) ∧ (a0 < a2)) : (a0).toNat < m1 := by omega
theorem om_507 {a0 : Int} {m1 : Nat} (h0 : ((-2147483648) ≤ a0) ∧ (a0 < 2147483648)) : (a0).toNat < (4294967296 + m1) := by omega
theorem om_508 {a0 : Int} (h0 : (1 ≤ a0) ∧ (a0 ≤ 1)) : 1 ≤ a0 := by omega
theorem om_509 {a0 : Int} (h0 : (1 ≤ a0) ∧ (a0 ≤ 1)) : a0 ≤ 2147483647 := by omega
theorem om_510 {a0 : Int} (h0 : (1 ≤ a0) ∧ (a0 ≤ 2147483647)) : ¬ (a0 = 0) := by omega
theorem om_511 {a0 : Int} (h0 : (1 ≤ a0) ∧ (a0 ≤ 1)) : 0 ≤ a0 := by omega
theorem om_512 {a0 : Int} (h0 : (1 ≤ a0) ∧ (a0 ≤ 2147483647)) : 0 < a0 := by omega
theorem om_513 {a0 : Int} (h0 : (100 ≤ a0) ∧ (a0 ≤ 100)) : 1 ≤ a0 := by omega
theorem om_514 {a0 : Int} (h0 : (100 ≤ a0) ∧ (a0 ≤ 100)) : a0 ≤ 2147483647 := by omega
theorem om_515 {a0 : Int} (h0 : (100 ≤ a0) ∧ (a0 ≤ 100)) : 0 ≤ a0 := by omega
theorem om_516 {a0 : Int} (h0 : (10000 ≤ a0) ∧ (a0 ≤ 10000)) : 1 ≤ a0 := by omega
theorem om_517 {a0 : Int} (h0 : (10000 ≤ a0) ∧ (a0 ≤ 10000)) : a0 ≤ 2147483647 := by omega
theorem om_518 {a0 : Int} (h0 : (10000 ≤ a0) ∧ (a0 ≤ 10000)) : 0 ≤ a0 := by omega
theorem om_519 {a0 : Int} (h0 : (1000000 ≤ a0) ∧ (a0 ≤ 1000000)) : 1 ≤ a0 := by omega
theorem om_520 {a0 : Int} (h0 : (1000000 ≤ a0) ∧ (a0 ≤ 1000000)) : a0 ≤ 2147483647 := by omega
theorem om_521 {a0 : Int} (h0 : (1000000 ≤ a0) ∧ (a0 ≤ 1000000)) : 0 ≤ a0 := by omega
theorem om_522 {a0 : Int} (h0 : (100000000 ≤ a0) ∧ (a0 ≤ 100000000)) : 1 ≤ a0 := by omega
theorem om_523 {a0 : Int} (h0 : (100000000 ≤ a0) ∧ (a0 ≤ 100000000)) : a0 ≤ 2147483647 := by omega
theorem om_524 {a0 : Int} (h0 : (100000000 ≤ a0) ∧ (a0 ≤ 100000000)) : 0 ≤ a0 := by omega
theorem om_525 {a0 a1 a2 : Int} (h0 : a2 = (a1 - 1)) (h1 : a0 ≤ a2) : a0 < a1 := by omega
theorem om_526 {a0 a1 a2 : Int} (h0 : (0 ≤ a1) ∧ (a1 ≤ 6)) (h1 : a2 = (a1 - 1)) (h2 : a0 ≤ a2) : a0 ≤ 5 := by omega
theorem om_527 {a0 : Int} (h0 : (0 ≤ a0) ∧ (a0 ≤ 5)) : a0 < 39 := by omega
theorem om_528 {a0 : Int} (h0 : (0 ≤ a0) ∧ (a0 ≤ 5)) : (a0).toNat < 39 := by omega
theorem om_529 {a0 : Int} (h0 : (0 ≤ a0) ∧ (a0 ≤ 5)) : (-2147483648) ≤ (18 + a0) := by omega
theorem om_530 {a0 : Int} (h0 : (0 ≤ a0) ∧ (a0 ≤ 5)) : (18 + a0) < 2147483648 := by omega
theorem om_531 {a0 a1 : Int} (h0 : (0 ≤ a1) ∧ (a1 ≤ 5)) (h1 : a0 = (18 + a1)) : 0 ≤ a0 := by omega
theorem om_532 {a0 a1 : Int} (h0 : (0 ≤ a1) ∧ (a1 ≤ 5)) (h1 : a0 = (18 + a1)) : a0 < 39 := by omega
theorem om_533 {a0 a1 : Int} (h0 : (0 ≤ a1) ∧ (a1 ≤ 5)) (h1 : a0 = (18 + a1)) : (a0).toNat < 39 := by omega
theorem om_534 {a0 : Int} (h0 : (0 ≤ a0) ∧ (a0 ≤ 5)) : a0 < 6 := by omega
theorem om_535 {a0 : Int} (h0 : (0 ≤ a0) ∧ (a0 ≤ 5)) : (-2147483648) ≤ (12 + a0) := by omega
theorem om_536 {a0 : Int} (h0 : (0 ≤ a0) ∧ (a0 ≤ 5)) : (12 + a0) < 2147483648 := by omega
theorem om_537 {a0 a1 : Int} (h0 : (0 ≤ a1) ∧ (a1 ≤ 5)) (h1 : a0 = (12 + a1)) : 0 ≤ a0 := by omega
theorem om_538 {a0 a1 : Int} (h0 : (0 ≤ a1) ∧ (a1 ≤ 5)) (h1 : a0 = (12 + a1)) : a0 < 39 := by omega
theorem om_539 {a0 a1 : Int} (h0 : (0 ≤ a1) ∧ (a1 ≤ 5)) (h1 : a0 = (12 + a1)) : (a0).toNat < 39 := by omega
theorem om_540 {a0 : Int} (h0 : (0 ≤ a0) ∧ (a0 ≤ 5)) : (-2147483648) ≤ (30 + a0) := by omega
theorem om_541 {a0 : Int} (h0 : (0 ≤ a0) ∧ (a0 ≤ 5)) : (30 + a0) < 2147483648 := by omega
theorem om_542 {a0 a1 : Int} (h0 : (0 ≤ a1) ∧ (a1 ≤ 5)) (h1 : a0 = (30 + a1)) : 0 ≤ a0 := by omega
theorem om_543 {a0 a1 : Int} (h0 : (0 ≤ a1) ∧ (a1 ≤ 5)) (h1 : a0 = (30 + a1)) : a0 < 39 := by omega
theorem om_544 {a0 a1 : Int} (h0 : (0 ≤ a1) ∧ (a1 ≤ 5)) (h1 : a0 = (30 + a1)) : (a0).toNat < 39 := by omega
theorem om_545 : (37 : Nat) < 39 := by omega
theorem om_546 {a0 : Int} (h0 : (0 ≤ a0) ∧ (a0 ≤ 64)) : 0 ≤ a0 := by omega
theorem om_547 {a0 : Int} (h0 : (0 ≤ a0) ∧ (a0 ≤ 64)) : (-2147483648) ≤ (a0 + 1) := by omega
theorem om_548 {a0 : Int} (h0 : (0 ≤ a0) ∧ (a0 ≤ 64)) : (a0 + 1) < 2147483648 := by omega
theorem om_549 {a0 a1 : Int} (h0 : (0 ≤ a1) ∧ (a1 ≤ 64)) (h1 : a0 = (a1 + 1)) : 0 ≤ a0 := by omega
theorem om_550 {a0 a1 : Int} (h0 : (0 ≤ a1) ∧ (a1 ≤ 2147483647)) (h1 : a0 = (a1 + 1)) : (a0).toNat = ((a1).toNat + 1) := by omega
theorem om_551 {a0 : Int} (h0 : (0 ≤ a0) ∧ (a0 ≤ 64)) : (-2147483648) ≤ (a0 + (-1)) := by omega
theorem om_552 {a0 : Int} (h0 : (0 ≤ a0) ∧ (a0 ≤ 64)) : (a0 + (-1)) < 2147483648 := by omega
theorem om_553 {a0 a1 : Int} (h0 : (0 ≤ a1) ∧ (a1 ≤ 64)) (h1 : a0 = (a1 + (-1))) : (-2147483648) ≤ (a0 - 1) := by omega
theorem om_554 {a0 a1 a2 : Int} (h0 : (0 ≤ a1) ∧ (a1 ≤ 64)) (h1 : a2 = (a1 + (-1))) (h2 : a0 = (a2 - 1)) : a0 < 64 := by omega
theorem om_555 {a0 a1 : Int} (h0 : (0 ≤ a1) ∧ (a1 ≤ 64)) (h1 : a0 = (a1 + (-1))) : a0 < 64 := by omega
theorem om_556 {a0 a1 : Int} (h0 : (0 ≤ a1) ∧ (a1 ≤ 64)) (h1 : a0 = (a1 + (-1))) : a0 ≤ 64 := by omega
theorem om_557 {a0 : Int} (h0 : (0 ≤ a0) ∧ (a0 ≤ 64)) : (-2147483648) ≤ (a0 - 1) := by omega
theorem om_558 {a0 : Int} (h0 : (0 ≤ a0) ∧ (a0 ≤ 64)) : (a0 - 1) < 2147483648 := by omega
theorem om_559 {a0 a1 : Int} (h0 : (0 ≤ a1) ∧ (a1 ≤ 64)) (h1 : a0 = (a1 - 1)) : a0 < 64 := by omega
theorem om_560 {a0 : Int} (h0 : (0 ≤ a0) ∧ (a0 ≤ 64)) : a0 ≤ 64 := by omega
theorem om_561 {a0 : Int} (h0 : (0 ≤ a0) ∧ (a0 ≤ 40)) : (-2147483648) ≤ (a0 + 1) := by omega
theorem om_562 {a0 : Int} (h0 : (0 ≤ a0) ∧ (a0 ≤ 40)) : (a0 + 1) < 2147483648 := by omega
theorem om_563 {a0 a1 : Int} (h0 : (0 ≤ a1) ∧ (a1 ≤ 40)) (h1 : a0 = (a1 + 1)) : 0 ≤ a0 := by omega
theorem om_564 {a0 a1 : Int} (h0 : ¬ (a1 = 40)) (h1 : (0 ≤ a1) ∧ (a1 ≤ 40)) (h2 : a0 = (a1 + 1)) : a0 ≤ 40 := by omega
theorem om_565 {a0 a1 a2 : Int} (h0 : ¬ (a2 = 40)) (h1 : (0 ≤ a2) ∧ (a2 ≤ 40)) (h2 : a0 = (a2 + 1)) (h3 : a1 = 0) : (a0 + a1) ≤ 40 := by omega
theorem om_566 {a0 : Int} (h0 : (0 ≤ a0) ∧ (a0 ≤ 40)) : (-2147483648) ≤ (39 * a0) := by omega
theorem om_567 {a0 : Int} (h0 : (0 ≤ a0) ∧ (a0 ≤ 40)) : (39 * a0) < 2147483648 := by omega
theorem om_568 {a0 a1 a2 : Int} (h0 : ¬ (39 ≤ a1)) (h1 : (0 ≤ a2) ∧ (a2 ≤ 40)) (h2 : a0 = (39 * a2)) : (a0 + a1) < 2147483648 := by omega
theorem om_569 {a0 a1 a2 a3 : Int} (h0 : (0 ≤ a1) ∧ (a1 ≤ 2147483647)) (h1 : (0 ≤ a2) ∧ (a2 ≤ 40)) (h2 : a3 = (39 * a2)) (h3 : a0 = (a3 + a1)) : 0 ≤ a0 := by omega
theorem om_570 {a0 a1 a2 a3 : Int} (h0 : ¬ (a1 = 40)) (h1 : ¬ (39 ≤ a2)) (h2 : (0 ≤ a1) ∧ (a1 ≤ 40)) (h3 : a3 = (39 * a1)) (h4 : a0 = (a3 + a2)) : a0 < 1560 := by omega
theorem om_571 {a0 : Int} (h0 : a0 = 40) : (-2147483648) ≤ (a0 - 1) := by omega
theorem om_572 {a0 : Int} (h0 : a0 = 40) : (a0 - 1) < 2147483648 := by omega
theorem om_573 {a0 a1 : Int} (h0 : a1 = 40) (h1 : a0 = (a1 - 1)) : (a0 + 1) < 2147483648 := by omega
theorem om_574 {a0 a1 a2 : Int} (h0 : a1 = 40) (h1 : a2 = (a1 - 1)) (h2 : a0 = (a2 + 1)) : 0 ≤ a0 := by omega
theorem om_575 {a0 a1 a2 : Int} (h0 : a1 = 40) (h1 : a2 = (a1 - 1)) (h2 : a0 = (a2 + 1)) : a0 ≤ 40 := by omega
theorem om_576 {a0 a1 a2 a3 : Int} (h0 : a2 = 40) (h1 : a3 = (a2 - 1)) (h2 : a0 = (a3 + 1)) (h3 : a1 = 0) : (a0 + a1) ≤ 40 := by omega
theorem om_577 {a0 a1 : Int} (h0 : a1 = 40) (h1 : a0 = (a1 - 1)) : (-2147483648) ≤ (39 * a0) := by omega
theorem om_578 {a0 a1 : Int} (h0 : a1 = 40) (h1 : a0 = (a1 - 1)) : (39 * a0) < 2147483648 := by omega
theorem om_579 {a0 a1 a2 a3 : Int} (h0 : a2 = 40) (h1 : a3 = (a2 - 1)) (h2 : ¬ (39 ≤ a1)) (h3 : a0 = (39 * a3)) : (a0 + a1) < 2147483648 := by omega
theorem om_580 {a0 a1 a2 a3 a4 : Int} (h0 : a1 = 40) (h1 : a2 = (a1 - 1)) (h2 : (0 ≤ a3) ∧ (a3 ≤ 2147483647)) (h3 : a4 = (39 * a2)) (h4 : a0 = (a4 + a3)) : 0 ≤ a0 := by omega
theorem om_581 {a0 a1 a2 a3 a4 : Int} (h0 : a1 = 40) (h1 : a2 = (a1 - 1)) (h2 : ¬ (39 ≤ a3)) (h3 : a4 = (39 * a2)) (h4 : a0 = (a4 + a3)) : a0 < 1560 := by omega
theorem om_582 {a0 a1 : Int} (h0 : a1 = 40) (h1 : a0 = (a1 - 1)) : 0 ≤ a0 := by omega
theorem om_583 {a0 a1 : Int} (h0 : a1 = 40) (h1 : a0 = (a1 - 1)) : a0 ≤ 40 := by omega
theorem om_584 {a0 a1 a2 a3 : Int} (h0 : (a2 + a3) ≤ 40) (h1 : a1 = a3) (h2 : a0 = (a2 - 1)) : (a0 + a1) ≤ 40 := by omega
theorem om_585 {a0 : Int} (h0 : (0 ≤ a0) ∧ (a0 ≤ 2147483647)) : (-2147483648) ≤ (39 + a0) := by omega
theorem om_586 {a0 : Int} (h0 : ¬ (1521 ≤ a0)) : (39 + a0) < 2147483648 := by omega
theorem om_587 {a0 a1 : Int} (h0 : (0 ≤ a1) ∧ (a1 ≤ 2147483647)) (h1 : a0 = (39 + a1)) : 0 ≤ a0 := by omega
theorem om_588 {a0 a1 : Int} (h0 : ¬ (1521 ≤ a1)) (h1 : a0 = (39 + a1)) : a0 < 1560 := by omega
theorem om_589 {a0 a1 : Int} (h0 : ¬ (1521 ≤ a1)) (h1 : a0 = (39 + a1)) : (a0).toNat < 1560 := by omega
theorem om_590 {a0 : Int} (h0 : ¬ (1521 ≤ a0)) : a0 < 1560 := by omega
theorem om_591 {a0 : Int} (h0 : ¬ (1521 ≤ a0)) : (a0 + 1) < 2147483648 := by omega
theorem om_592 : (38 : Nat) < 39 := by omega
theorem om_593 {a0 a1 a2 : Int} (h0 : (0 ≤ a1) ∧ (a1 ≤ 6)) (h1 : ¬ (a1 ≤ a2)) (h2 : a0 = (6 + a2)) : (a0).toNat < 39 := by omega
theorem om_594 {a0 : Int} (h0 : (0 ≤ a0) ∧ (a0 ≤ 32)) : 0 ≤ a0 := by omega
theorem om_595 {a0 : Int} (h0 : (0 ≤ a0) ∧ (a0 ≤ 32)) : a0 ≤ 63 := by omega
theorem om_596 {a0 : Int} (h0 : (0 ≤ a0) ∧ (a0 ≤ 5)) : (-2147483648) ≤ (6 + a0) := by omega
theorem om_597 {a0 : Int} (h0 : (0 ≤ a0) ∧ (a0 ≤ 5)) : (6 + a0) < 2147483648 := by omega
theorem om_598 {a0 a1 : Int} (h0 : (0 ≤ a1) ∧ (a1 ≤ 5)) (h1 : a0 = (6 + a1)) : 0 ≤ a0 := by omega
theorem om_599 {a0 a1 : Int} (h0 : (0 ≤ a1) ∧ (a1 ≤ 5)) (h1 : a0 = (6 + a1)) : a0 < 39 := by omega
theorem om_600 {a0 a1 : Int} (h0 : (0 ≤ a1) ∧ (a1 ≤ 5)) (h1 : a0 = (6 + a1)) : (a0).toNat < 39 := by omega
theorem om_601 {a0 a1 : Int} (h0 : ¬ (a1 ≤ a0)) : a0 ≤ a1 := by omega
theorem om_602 {a0 a1 a2 : Int} (h0 : (0 ≤ a1) ∧ (a1 ≤ 6)) (h1 : ¬ (a1 ≤ a2)) (h2 : a0 = (30 + a2)) : (a0).toNat < 39 := by omega
theorem om_603 {a0 a1 a2 : Int} (h0 : (0 ≤ a1) ∧ (a1 ≤ 6)) (h1 : ¬ (a1 ≤ a2)) (h2 : a0 = (12 + a2)) : (a0).toNat < 39 := by omega
theorem om_604 {a0 a1 a2 : Int} (h0 : (0 ≤ a1) ∧ (a1 ≤ 6)) (h1 : ¬ (a1 ≤ a2)) (h2 : a0 = (18 + a2)) : (a0).toNat < 39 := by omega
theorem om_605 {a0 a1 : Int} (h0 : (0 ≤ a1) ∧ (a1 ≤ 6)) (h1 : ¬ (a1 ≤ a0)) : (a0).toNat < 39 := by omega
theorem om_606 {a0 a1 : Int} (h0 : a1 ≤ 5) (h1 : a0 = (6 + a1)) : a0 < 39 := by omega
theorem om_607 {a0 a1 : Int} (h0 : a1 ≤ 5) (h1 : a0 = (6 + a1)) : (a0).toNat < 39 := by omega
theorem om_608 {a1 : Int} {m0 : Nat} (h0 : 0 ≤ a1) (h1 : a1 ≤ 5) : (m0 < 6) ∨ ((12 ≤ m0) ∨ (((-1) ≤ a1) ∧ (a1 ≤ 5))) := by omega
theorem om_609 {a0 : Int} (h0 : 0 ≤ a0) : (-2147483648) ≤ (24 + a0) := by omega
theorem om_610 {a0 : Int} (h0 : a0 ≤ 5) : (24 + a0) < 2147483648 := by omega
theorem om_611 {a0 a1 : Int} (h0 : 0 ≤ a1) (h1 : a0 = (24 + a1)) : 0 ≤ a0 := by omega
theorem om_612 {a0 a1 : Int} (h0 : a1 ≤ 5) (h1 : a0 = (24 + a1)) : a0 < 39 := by omega
theorem om_613 {a0 a1 : Int} (h0 : a1 ≤ 5) (h1 : a0 = (24 + a1)) : (a0).toNat < 39 := by omega
theorem om_614 {a0 : Int} (h0 : 0 ≤ a0) : (-2147483648) ≤ (18 + a0) := by omega
theorem om_615 {a0 : Int} (h0 : a0 ≤ 5) : (18 + a0) < 2147483648 := by omega
theorem om_616 {a0 a1 : Int} (h0 : 0 ≤ a1) (h1 : a0 = (18 + a1)) : 0 ≤ a0 := by omega
theorem om_617 {a0 a1 : Int} (h0 : a1 ≤ 5) (h1 : a0 = (18 + a1)) : a0 < 39 := by omega
theorem om_618 {a0 a1 : Int} (h0 : a1 ≤ 5) (h1 : a0 = (18 + a1)) : (a0).toNat < 39 := by omega
theorem om_619 {a0 : Int} (h0 : 0 ≤ a0) : (-2147483648) ≤ (12 + a0) := by omega
theorem om_620 {a0 : Int} (h0 : a0 ≤ 5) : (12 + a0) < 2147483648 := by omega
theorem om_621 {a0 a1 : Int} (h0 : 0 ≤ a1) (h1 : a0 = (12 + a1)) : 0 ≤ a0 := by omega
theorem om_622 {a0 a1 : Int} (h0 : a1 ≤ 5) (h1 : a0 = (12 + a1)) : a0 < 39 := by omega
theorem om_623 {a0 a1 : Int} (h0 : a1 ≤ 5) (h1 : a0 = (12 + a1)) : (a0).toNat < 39 := by omega
theorem om_624 : (36 : Nat) < 39 := by omega
theorem om_625 {a0 : Int} (h0 : 0 ≤ a0) : (-2147483648) ≤ (30 + a0) := by omega
theorem om_626 {a0 : Int} (h0 : a0 ≤ 5) : (30 + a0) < 2147483648 := by omega
theorem om_627 {a0 a1 : Int} (h0 : 0 ≤ a1) (h1 : a0 = (30 + a1)) : 0 ≤ a0 := by omega
theorem om_628 {a0 a1 : Int} (h0 : a1 ≤ 5) (h1 : a0 = (30 + a1)) : a0 < 39 := by omega
theorem om_629 {a0 a1 : Int} (h0 : a1 ≤ 5) (h1 : a0 = (30 + a1)) : (a0).toNat < 39 := by omega
theorem om_630 {a0 a1 : Int} (h0 : (0 ≤ a0) ∧ (a0 ≤ 1521)) (h1 : (0 ≤ a1) ∧ (a1 ≤ 2147483647)) : (-2147483648) ≤ (a0 + a1) := by omega
theorem om_631 {a0 a1 : Int} (h0 : (0 ≤ a0) ∧ (a0 ≤ 1521)) (h1 : ¬ (39 ≤ a1)) : (a0 + a1) < 2147483648 := by omega
theorem om_632 {a0 a1 a2 : Int} (h0 : (0 ≤ a1) ∧ (a1 ≤ 1521)) (h1 : (0 ≤ a2) ∧ (a2 ≤ 2147483647)) (h2 : a0 = (a1 + a2)) : 0 ≤ a0 := by omega
theorem om_633 {a0 a1 a2 : Int} (h0 : (0 ≤ a1) ∧ (a1 ≤ 1521)) (h1 : ¬ (39 ≤ a2)) (h2 : a0 = (a1 + a2)) : a0 < 1560 := by omega
theorem om_634 {a0 a1 a2 : Int} (h0 : (0 ≤ a1) ∧ (a1 ≤ 1521)) (h1 : ¬ (39 ≤ a2)) (h2 : a0 = (a1 + a2)) : (a0).toNat < 1560 := by omega
theorem om_635 {a0 : Int} (h0 : (0 ≤ a0) ∧ (a0 ≤ 40)) : (-2147483648) ≤ (a0 - 1) := by omega
theorem om_636 {a0 : Int} (h0 : (0 ≤ a0) ∧ (a0 ≤ 40)) : (a0 - 1) < 2147483648 := by omega
theorem om_637 {a0 a1 : Int} (h0 : (0 ≤ a1) ∧ (a1 ≤ 40)) (h1 : a0 = (a1 - 1)) : (-2147483648) ≤ (39 * a0) := by omega
theorem om_638 {a0 a1 : Int} (h0 : (0 ≤ a1) ∧ (a1 ≤ 40)) (h1 : a0 = (a1 - 1)) : (39 * a0) < 2147483648 := by omega
theorem om_639 {a0 a1 : Int} (h0 : (0 ≤ a1) ∧ (a1 ≤ 40)) (h1 : ¬ (a1 = 0)) (h2 : a0 = (a1 - 1)) : 0 ≤ a0 := by omega
theorem om_640 {a0 a1 : Int} (h0 : (0 ≤ a1) ∧ (a1 ≤ 40)) (h1 : a0 = (a1 - 1)) : a0 ≤ 40 := by omega
theorem om_641 {a0 a1 a2 : Int} (h0 : (a1 + a2) ≤ 40) (h1 : (0 ≤ a1) ∧ (a1 ≤ 40)) (h2 : ¬ (a1 = 0)) (h3 : a0 = (a2 + 1)) : a0 ≤ 40 := by omega
theorem om_642 {a0 a1 a2 : Int} (h0 : (0 ≤ a1) ∧ (a1 ≤ 40)) (h1 : ¬ (a1 = 0)) (h2 : a2 = (a1 - 1)) (h3 : a0 = (39 * a2)) : 0 ≤ a0 := by omega
theorem om_643 {a0 a1 a2 : Int} (h0 : (0 ≤ a1) ∧ (a1 ≤ 40)) (h1 : a2 = (a1 - 1)) (h2 : a0 = (39 * a2)) : a0 ≤ 1521 := by omega
theorem om_644 {a0 a1 a2 a3 : Int} (h0 : (a2 + a3) ≤ 40) (h1 : a0 = (a2 - 1)) (h2 : a1 = (a3 + 1)) : (a0 + a1) ≤ 40 := by omega
theorem om_645 {a0 a1 : Int} (h0 : (0 ≤ a1) ∧ (a1 ≤ 40)) (h1 : a0 = (39 * a1)) : 0 ≤ a0 := by omega
theorem om_646 {a0 a1 a2 : Int} (h0 : (a1 + a2) ≤ 40) (h1 : (0 ≤ a2) ∧ (a2 ≤ 40)) (h2 : ¬ (a2 = 0)) (h3 : a0 = (39 * a1)) : a0 ≤ 1521 := by omega
theorem om_647 {a0 a1 a2 : Int} (h0 : (a1 + a2) ≤ 40) (h1 : ¬ (a2 = 0)) (h2 : a0 = (a1 + 1)) (h3 : (0 ≤ a2) ∧ (a2 ≤ 40)) : a0 ≤ 40 := by omega
theorem om_648 {a0 a1 : Int} (h0 : ¬ (a1 = 0)) (h1 : (0 ≤ a1) ∧ (a1 ≤ 40)) (h2 : a0 = (a1 - 1)) : 0 ≤ a0 := by omega
theorem om_649 {a0 a1 a2 a3 : Int} (h0 : (a2 + a3) ≤ 40) (h1 : a0 = (a2 + 1)) (h2 : a1 = (a3 - 1)) : (a0 + a1) ≤ 40 := by omega
theorem om_650 {a0 : Int} (h0 : ¬ (3 ≤ a0)) : a0 ≤ 2 := by omega
theorem om_651 {a0 : Int} (h0 : a0 ≤ 2) : a0 < 3 := by omega
theorem om_652 {a0 : Int} (h0 : 0 ≤ a0) : (-2147483648) ≤ (39 * a0) := by omega
theorem om_653 {a0 : Int} (h0 : a0 ≤ 2) : (39 * a0) < 2147483648 := by omega
theorem om_654 {a0 a1 a2 : Int} (h0 : a2 ≤ 2) (h1 : ¬ (39 ≤ a1)) (h2 : a0 = (39 * a2)) : (a0 + a1) < 2147483648 := by omega
theorem om_655 {a0 a1 a2 a3 : Int} (h0 : 0 ≤ a1) (h1 : (0 ≤ a2) ∧ (a2 ≤ 2147483647)) (h2 : a3 = (39 * a1)) (h3 : a0 = (a3 + a2)) : 0 ≤ a0 := by omega
theorem om_656 {a0 a1 a2 a3 : Int} (h0 : a1 ≤ 2) (h1 : ¬ (39 ≤ a2)) (h2 : a3 = (39 * a1)) (h3 : a0 = (a3 + a2)) : a0 < 117 := by omega
theorem om_657 {a0 a1 a2 a3 : Int} (h0 : a1 ≤ 2) (h1 : ¬ (39 ≤ a2)) (h2 : a3 = (39 * a1)) (h3 : a0 = (a3 + a2)) : (a0).toNat < 117 := by omega
theorem om_658 {a0 : Int} (h0 : ((-2147483648) ≤ a0) ∧ (a0 < 2147483648)) : (-2147483648) ≤ (a0 + 0) := by omega
theorem om_659 {a0 : Int} (h0 : ((-2147483648) ≤ a0) ∧ (a0 < 2147483648)) : (a0 + 0) < 2147483648 := by omega
theorem om_660 {a0 : Int} (h0 : ((-2147483648) ≤ a0) ∧ (a0 < 2147483648)) : (-2147483648) ≤ (18 + a0) := by omega
theorem om_661 {a0 a1 : Int} (h0 : (0 ≤ a1) ∧ (a1 ≤ 63)) (h1 : ¬ (a1 < a0)) : a0 ≤ 63 := by omega
theorem om_662 {a0 a1 : Int} (h0 : (0 ≤ a1) ∧ (a1 ≤ 2147483647)) (h1 : (0 ≤ a0) ∧ (a0 ≤ 2147483647)) : (-2147483648) ≤ (a0 + a1) := by omega
theorem om_663 {a0 a1 a2 : Int} (h0 : ¬ (a2 ≤ a1)) (h1 : (0 ≤ a2) ∧ (a2 ≤ 6)) (h2 : ¬ (a2 ≤ a0)) : (a0 + a1) < 2147483648 := by omega
theorem om_664 {a0 a1 a2 : Int} (h0 : (0 ≤ a1) ∧ (a1 ≤ 2147483647)) (h1 : (0 ≤ a2) ∧ (a2 ≤ 2147483647)) (h2 : a0 = (a2 + a1)) : 0 ≤ a0 := by omega
theorem om_665 {a0 : Int} (h0 : ¬ (a0 = 0)) (h1 : (0 ≤ a0) ∧ (a0 ≤ 6)) : 0 < a0 := by omega
theorem om_666 {a0 a1 : Int} (h0 : (0 ≤ a0) ∧ (a0 < a1)) : (-2147483648) ≤ (6 + a0) := by omega
theorem om_667 {a0 a1 : Int} (h0 : (0 ≤ a1) ∧ (a1 ≤ 6)) (h1 : (0 ≤ a0) ∧ (a0 < a1)) : (6 + a0) < 2147483648 := by omega
theorem om_668 {a0 a1 a2 : Int} (h0 : (0 ≤ a1) ∧ (a1 < a2)) (h1 : a0 = (6 + a1)) : 0 ≤ a0 := by omega
theorem om_669 {a0 a1 a2 : Int} (h0 : (0 ≤ a1) ∧ (a1 ≤ 6)) (h1 : (0 ≤ a2) ∧ (a2 < a1)) (h2 : a0 = (6 + a2)) : a0 < 39 := by omega
theorem om_670 {a0 a1 a2 : Int} (h0 : (0 ≤ a1) ∧ (a1 ≤ 6)) (h1 : (0 ≤ a2) ∧ (a2 < a1)) (h2 : a0 = (6 + a2)) : (a0).toNat < 39 := by omega
theorem om_671 {a0 : Int} (h0 : a0 ≤ 5) : a0 < 39 := by omega
theorem om_672 {a0 : Int} (h0 : a0 ≤ 5) : (a0).toNat < 39 := by omega
theorem om_673 {a0 a1 a2 : Int} (h0 : a1 ≤ a2) (h1 : ¬ (a1 ≤ a0)) (h2 : a2 = 60) : (a0 + 1) < 2147483648 := by omega
theorem om_674 {a0 : Int} (h0 : (0 ≤ a0) ∧ (a0 ≤ 2147483647)) : (-2147483648) ≤ (6 * a0) := by omega
theorem om_675 {a0 a1 : Int} (h0 : (0 ≤ a1) ∧ (a1 ≤ 6)) (h1 : ¬ (a1 ≤ a0)) : (6 * a0) < 2147483648 := by omega
theorem om_676 {a0 a1 a2 a3 a4 : Int} (h0 : (0 ≤ a2) ∧ (a2 ≤ 6)) (h1 : ¬ (a2 ≤ a3)) (h2 : (0 ≤ a4) ∧ (a4 ≤ 6)) (h3 : ¬ (a4 ≤ a1)) (h4 : a0 = (6 * a3)) : (a0 + a1) < 2147483648 := by omega
theorem om_677 {a0 a1 a2 a3 : Int} (h0 : (0 ≤ a1) ∧ (a1 ≤ 2147483647)) (h1 : (0 ≤ a2) ∧ (a2 ≤ 2147483647)) (h2 : a3 = (6 * a1)) (h3 : a0 = (a3 + a2)) : 0 ≤ a0 := by omega
theorem om_678 {a0 a1 a2 a3 a4 a5 : Int} (h0 : (0 ≤ a1) ∧ (a1 ≤ 6)) (h1 : ¬ (a1 ≤ a2)) (h2 : (0 ≤ a3) ∧ (a3 ≤ 6)) (h3 : ¬ (a3 ≤ a4)) (h4 : a5 = (6 * a2)) (h5 : a0 = (a5 + a4)) : a0 < 36 := by omega
theorem om_679 {a0 : Int} (h0 : (0 ≤ a0) ∧ (a0 ≤ 6)) : (a0 + 1) < 2147483648 := by omega
theorem om_680 {a0 a1 : Int} (h0 : (0 ≤ a1) ∧ (a1 ≤ 6)) (h1 : a0 = (a1 + 1)) : ¬ (a0 = 0) := by omega
theorem om_681 {a0 a1 : Int} (h0 : (0 ≤ a1) ∧ (a1 ≤ 6)) (h1 : a0 = (a1 + 1)) : 0 < a0 := by omega
theorem om_682 {a0 a1 : Int} (h0 : (0 ≤ a1) ∧ (a1 < a0)) : ¬ (a0 = 0) := by omega
theorem om_683 {a0 a1 : Int} (h0 : (0 ≤ a1) ∧ (a1 < a0)) : 0 < a0 := by omega
theorem om_684 {a0 : Int} (h0 : ((-2147483648) ≤ a0) ∧ (a0 ≤ 5)) : a0 < 6 := by omega
theorem om_685 {a0 a1 a2 : Int} (h0 : (0 ≤ a1) ∧ (a1 ≤ 6)) (h1 : a2 = (a1 + 1)) (h2 : (0 ≤ a0) ∧ (a0 < a2)) (h3 : ¬ (a0 = a1)) : ((-1) ≤ a0) ∧ (a0 ≤ 5) := by omega
theorem om_686 {a0 : Int} (h0 : ¬ (a0 < 0)) : (-2147483648) ≤ (6 * a0) := by omega
theorem om_687 {a0 : Int} (h0 : ((-2147483648) ≤ a0) ∧ (a0 ≤ 5)) : (6 * a0) < 2147483648 := by omega
theorem om_688 {a0 a1 a2 : Int} (h0 : (0 ≤ a1) ∧ (a1 < a2)) (h1 : ((-2147483648) ≤ a0) ∧ (a0 < 2147483648)) : (-2147483648) ≤ (a0 + a1) := by omega
theorem om_689 {a0 a1 a2 a3 a4 : Int} (h0 : ((-2147483648) ≤ a2) ∧ (a2 ≤ 5)) (h1 : (0 ≤ a3) ∧ (a3 ≤ 6)) (h2 : a4 = (a3 + 1)) (h3 : (0 ≤ a1) ∧ (a1 < a4)) (h4 : a0 = (6 * a2)) : (a0 + a1) < 2147483648 := by omega
theorem om_690 {a0 a1 a2 a3 a4 : Int} (h0 : ¬ (a1 < 0)) (h1 : (0 ≤ a2) ∧ (a2 < a3)) (h2 : a4 = (6 * a1)) (h3 : a0 = (a4 + a2)) : 0 ≤ a0 := by omega
theorem om_691 {a0 a1 a2 a3 a4 a5 : Int} (h0 : ((-2147483648) ≤ a1) ∧ (a1 ≤ 5)) (h1 : (0 ≤ a2) ∧ (a2 ≤ 6)) (h2 : a3 = (a2 + 1)) (h3 : (0 ≤ a4) ∧ (a4 < a3)) (h4 : ¬ (a4 = a2)) (h5 : a5 = (6 * a1)) (h6 : a0 = (a5 + a4)) : a0 < 36 := by omega
theorem om_692 {a0 a1 : Int} (h0 : (0 ≤ a0) ∧ (a0 ≤ a1)) : 0 ≤ a0 := by omega
theorem om_693 {a0 : Int} (h0 : a0 = -1) : ((-1) ≤ a0) ∧ (a0 ≤ 5) := by omega
theorem om_694 {a0 a1 a2 : Int} (h0 : a1 = a2) (h1 : ¬ (a1 = a2)) : (a0 + a1) < 2147483648 := by omega
theorem om_695 {a0 a1 a2 : Int} (h0 : a1 = a2) (h1 : ¬ (a1 = a2)) : 0 ≤ a0 := by omega
theorem om_696 {a0 a1 a2 : Int} (h0 : a1 = a2) (h1 : ¬ (a1 = a2)) : a0 < 36 := by omega
theorem om_697 {a0 : Int} (h0 : (0 ≤ a0) ∧ (a0 ≤ 2147483647)) : a0 ≤ 2147483647 := by omega
theorem om_698 {a0 a1 : Int} (h0 : (0 ≤ a1) ∧ (a1 ≤ 6)) (h1 : ¬ (a1 ≤ a0)) : (a0).toNat < 6 := by omega
theorem om_699 {a0 a1 a2 a3 : Int} (h0 : (0 ≤ a2) ∧ (a2 ≤ 6)) (h1 : ¬ (a2 ≤ a3)) (h2 : ((-1) ≤ a1) ∧ (a1 ≤ 5)) (h3 : a0 = (6 * a3)) : (a0 + a1) < 2147483648 := by omega
theorem om_700 {a0 a1 a2 a3 : Int} (h0 : (0 ≤ a1) ∧ (a1 ≤ 2147483647)) (h1 : 0 ≤ a2) (h2 : a3 = (6 * a1)) (h3 : a0 = (a3 + a2)) : 0 ≤ a0 := by omega
theorem om_701 {a0 a1 a2 a3 a4 : Int} (h0 : (0 ≤ a1) ∧ (a1 ≤ 6)) (h1 : ¬ (a1 ≤ a2)) (h2 : ((-1) ≤ a3) ∧ (a3 ≤ 5)) (h3 : a4 = (6 * a2)) (h4 : a0 = (a4 + a3)) : a0 < 36 := by omega
theorem om_702 {a0 a1 a2 : Int} (h0 : a2 ≤ a0) (h1 : ¬ (a2 < a1)) : (-2147483648) ≤ (a0 - a1) := by omega
theorem om_703 {a0 a1 a2 : Int} (h0 : ¬ (40 < a1)) (h1 : a2 ≤ a1) (h2 : ¬ (a2 < a0)) : (a0 + 1) < 2147483648 := by omega
theorem om_704 {a0 a1 a2 : Int} (h0 : ¬ (40 < a1)) (h1 : a2 = (a1 - a0)) (h2 : ¬ (a2 ≤ 0)) : (a0 + 1) < 2147483648 := by omega
theorem om_705 : (0 : Int) < 6 := by omega
theorem om_706 {a0 a1 : Int} (h0 : ¬ (a1 ≤ a0)) (h1 : (0 ≤ a1) ∧ (a1 ≤ 6)) : (6 + a0) < 2147483648 := by omega
theorem om_707 {a0 : Int} (h0 : (1 ≤ a0) ∧ (a0 ≤ 2147483647)) : (-2147483648) ≤ (6 + a0) := by omega
theorem om_708 {a0 a1 : Int} (h0 : (1 ≤ a1) ∧ (a1 ≤ 2147483647)) (h1 : a0 = (6 + a1)) : 0 ≤ a0 := by omega
theorem om_709 {a0 a1 a2 : Int} (h0 : ¬ (a1 ≤ a2)) (h1 : (0 ≤ a1) ∧ (a1 ≤ 6)) (h2 : a0 = (6 + a2)) : a0 < 39 := by omega
theorem om_710 {a0 a1 a2 : Int} (h0 : ¬ (a1 ≤ a2)) (h1 : (0 ≤ a1) ∧ (a1 ≤ 6)) (h2 : a0 = (6 + a2)) : (a0).toNat < 39 := by omega
theorem om_711 {a0 a1 : Int} (h0 : ¬ (a1 ≤ a0)) (h1 : (0 ≤ a1) ∧ (a1 ≤ 6)) : (6 * a0) < 2147483648 := by omega
theorem om_712 {a0 a1 : Int} (h0 : (1 ≤ a1) ∧ (a1 ≤ 2147483647)) (h1 : ((-2147483648) ≤ a0) ∧ (a0 < 2147483648)) : (-2147483648) ≤ (a0 + a1) := by omega
theorem om_713 {a0 a1 a2 a3 : Int} (h0 : ¬ (a2 ≤ a3)) (h1 : (0 ≤ a2) ∧ (a2 ≤ 6)) (h2 : ¬ (a2 ≤ a1)) (h3 : a0 = (6 * a3)) : (a0 + a1) < 2147483648 := by omega
theorem om_714 {a0 a1 : Int} (h0 : a0 < a1) (h1 : ((-2147483648) ≤ a1) ∧ (a1 < 2147483648)) : (a0 + 1) < 2147483648 := by omega
theorem om_715 {a0 : Int} (h0 : (1 ≤ a0) ∧ (a0 ≤ 64)) : (-2147483648) ≤ (a0 - 1) := by omega
theorem om_716 {a0 : Int} (h0 : (1 ≤ a0) ∧ (a0 ≤ 64)) : (a0 - 1) < 2147483648 := by omega
theorem om_717 {a0 a1 : Int} (h0 : (1 ≤ a1) ∧ (a1 ≤ 64)) (h1 : a0 = (a1 - 1)) : 0 ≤ a0 := by omega
theorem om_718 {a0 a1 : Int} (h0 : (1 ≤ a1) ∧ (a1 ≤ 64)) (h1 : a0 = (a1 - 1)) : a0 < 64 := by omega
theorem om_719 {a0 a1 : Int} (h0 : (1 ≤ a1) ∧ (a1 ≤ 64)) (h1 : ¬ (a1 ≤ a0)) : a0 < 64 := by omega
theorem om_720 {a0 a1 : Int} (h0 : (1 ≤ a1) ∧ (a1 ≤ 2147483647)) (h1 : a0 < a1) : (a0 + 1) < 2147483648 := by omega
theorem om_721 {a0 a1 a2 : Int} (h0 : (1 ≤ a1) ∧ (a1 ≤ 64)) (h1 : ¬ (a1 ≤ a2)) (h2 : ¬ (a2 < a0)) : a0 ≤ 63 := by omega
theorem om_722 {a0 a1 a2 : Int} (h0 : (1 ≤ a1) ∧ (a1 ≤ 64)) (h1 : ¬ (a1 ≤ a2)) (h2 : ¬ (a2 < a0)) : (a0 + 1) < 2147483648 := by omega
theorem om_723 {a0 a1 : Int} (h0 : (1 ≤ a1) ∧ (a1 ≤ 64)) (h1 : ¬ (a1 ≤ a0)) : a0 ≤ 63 := by omega
theorem om_724 {a0 : Int} (h0 : (0 ≤ a0) ∧ (a0 ≤ 63)) : a0 < 64 := by omega
theorem om_725 {a0 a1 : Int} (h0 : (0 ≤ a1) ∧ (a1 ≤ 2147483647)) (h1 : ¬ (a1 ≤ a0)) : (a0 + 1) < 2147483648 := by omega
theorem om_726 {a0 a1 a2 : Int} (h0 : (0 ≤ a1) ∧ (a1 ≤ 6)) (h1 : ¬ (a1 ≤ a2)) (h2 : ¬ (a2 ≤ a0)) : a0 < 6 := by omega
theorem om_727 {a0 a1 a2 : Int} (h0 : (0 ≤ a1) ∧ (a1 ≤ 6)) (h1 : ¬ (a1 ≤ a2)) (h2 : ¬ (a2 ≤ a0)) : (a0).toNat < 6 := by omega
theorem om_728 {a0 a1 a2 : Int} (h0 : (0 ≤ a1) ∧ (a1 ≤ 6)) (h1 : ¬ (a1 ≤ a2)) (h2 : ¬ (a2 ≤ a0)) : a0 ≤ 5 := by omega
theorem om_729 {a0 : Int} (h0 : (1 ≤ a0) ∧ (a0 ≤ 6)) : ¬ (a0 = 0) := by omega
theorem om_730 {a0 : Int} (h0 : (1 ≤ a0) ∧ (a0 ≤ 6)) : 0 < a0 := by omega
theorem om_731 {a0 a1 : Int} (h0 : (1 ≤ a1) ∧ (a1 ≤ 6)) (h1 : (0 ≤ a0) ∧ (a0 < a1)) : ((-1) ≤ a0) ∧ (a0 ≤ 5) := by omega
theorem om_732 {a0 a1 : Int} (h0 : ¬ (a1 < a0)) (h1 : (0 ≤ a1) ∧ (a1 ≤ 6)) : (a0 + 1) < 2147483648 := by omega
theorem om_733 {a0 a1 : Int} (h0 : ¬ (a1 < a0)) (h1 : (0 ≤ a1) ∧ (a1 ≤ 6)) : a0 ≤ 6 := by omega
theorem om_734 {a0 : Int} (h0 : (0 ≤ a0) ∧ (a0 ≤ 5)) : (-2147483648) ≤ (6 * a0) := by omega
theorem om_735 {a0 : Int} (h0 : (0 ≤ a0) ∧ (a0 ≤ 5)) : (6 * a0) < 2147483648 := by omega
theorem om_736 {a0 a1 a2 : Int} (h0 : (0 ≤ a2) ∧ (a2 ≤ 5)) (h1 : (0 ≤ a1) ∧ (a1 ≤ 5)) (h2 : a0 = (6 * a2)) : (a0 + a1) < 2147483648 := by omega
theorem om_737 {a0 a1 a2 a3 : Int} (h0 : (0 ≤ a1) ∧ (a1 ≤ 5)) (h1 : (0 ≤ a2) ∧ (a2 ≤ 5)) (h2 : a3 = (6 * a1)) (h3 : a0 = (a3 + a2)) : 0 ≤ a0 := by omega
theorem om_738 {a0 a1 a2 a3 : Int} (h0 : (0 ≤ a1) ∧ (a1 ≤ 5)) (h1 : (0 ≤ a2) ∧ (a2 ≤ 5)) (h2 : a3 = (6 * a1)) (h3 : a0 = (a3 + a2)) : a0 < 36 := by omega
theorem om_739 {a0 a1 : Int} (h0 : ¬ (a1 ≤ a0)) (h1 : (0 ≤ a1) ∧ (a1 ≤ 6)) : a0 ≤ 5 := by omega
theorem om_740 {a0 : Int} (h0 : a0 = 0) : (-2147483648) ≤ (a0 + 1) := by omega
theorem om_741 {a0 : Int} (h0 : a0 = 0) : (a0 + 1) < 2147483648 := by omega
theorem om_742 {a0 : Int} (h0 : (0 ≤ a0) ∧ (a0 ≤ 5)) : (-1) ≤ a0 := by omega
theorem om_743 {a0 a1 a2 : Int} (h0 : (0 ≤ a1) ∧ (a1 ≤ 6)) (h1 : a2 = (a1 - 1)) (h2 : a0 ≤ a2) : a0 < 6 := by omega
theorem om_744 {a0 : Int} (h0 : a0 = 0) : a0 ≤ 1 := by omega
theorem om_745 {a0 a1 : Int} (h0 : (0 ≤ a1) ∧ (a1 ≤ 30)) (h1 : ¬ (a1 ≤ a0)) : a0 < 30 := by omega
theorem om_746 {a0 a1 : Int} (h0 : (0 ≤ a1) ∧ (a1 ≤ 30)) (h1 : ¬ (a1 ≤ a0)) : (a0 + 1) < 2147483648 := by omega
theorem om_747 {a0 : Int} (h0 : (0 ≤ a0) ∧ (a0 ≤ 30)) : (-2147483648) ≤ (21 * a0) := by omega
theorem om_748 {a0 : Int} (h0 : (0 ≤ a0) ∧ (a0 ≤ 30)) : (21 * a0) < 2147483648 := by omega
theorem om_749 {a0 a1 : Int} (h0 : (0 ≤ a1) ∧ (a1 ≤ 30)) (h1 : ¬ (a1 ≤ a0)) : (a0).toNat < 30 := by omega
theorem om_750 {a0 a1 : Int} (h0 : (0 ≤ a1) ∧ (a1 ≤ 20)) (h1 : ((-2147483648) ≤ a0) ∧ (a0 < 2147483648)) : (-2147483648) ≤ (a0 + a1) := by omega
theorem om_751 {a0 a1 a2 : Int} (h0 : (0 ≤ a2) ∧ (a2 ≤ 30)) (h1 : a0 = (21 * a2)) (h2 : (0 ≤ a1) ∧ (a1 ≤ 20)) : (a0 + a1) < 2147483648 := by omega
theorem om_752 {a0 a1 a2 a3 : Int} (h0 : (0 ≤ a1) ∧ (a1 ≤ 30)) (h1 : a2 = (21 * a1)) (h2 : (0 ≤ a3) ∧ (a3 ≤ 20)) (h3 : a0 = (a2 + a3)) : 0 ≤ a0 := by omega
theorem om_753 {a0 a1 a2 a3 : Int} (h0 : (0 ≤ a1) ∧ (a1 ≤ 30)) (h1 : a2 = (21 * a1)) (h2 : (0 ≤ a3) ∧ (a3 ≤ 20)) (h3 : a0 = (a2 + a3)) : a0 < 651 := by omega
theorem om_754 {a0 : Int} (h0 : ¬ (30 < a0)) : a0 ≤ 30 := by omega
theorem om_755 {a0 : Int} (h0 : ¬ (30 < a0)) : a0 < 31 := by omega
theorem om_756 {a0 : Int} (h0 : (0 ≤ a0) ∧ (a0 ≤ 2147483647)) : (-2147483648) ≤ (21 * a0) := by omega
theorem om_757 {a0 : Int} (h0 : ¬ (30 < a0)) : (21 * a0) < 2147483648 := by omega
theorem om_758 {a0 a1 a2 : Int} (h0 : ¬ (30 < a2)) (h1 : ¬ (20 < a1)) (h2 : a0 = (21 * a2)) : (a0 + a1) < 2147483648 := by omega
theorem om_759 {a0 a1 a2 a3 : Int} (h0 : (0 ≤ a1) ∧ (a1 ≤ 2147483647)) (h1 : (0 ≤ a2) ∧ (a2 ≤ 2147483647)) (h2 : a3 = (21 * a1)) (h3 : a0 = (a3 + a2)) : 0 ≤ a0 := by omega
theorem om_760 {a0 a1 a2 a3 : Int} (h0 : ¬ (30 < a1)) (h1 : ¬ (20 < a2)) (h2 : a3 = (21 * a1)) (h3 : a0 = (a3 + a2)) : a0 < 651 := by omega
theorem om_761 : (0 : Nat) < 39 := by omega
theorem om_762 : (30 : Nat) < 39 := by omega
theorem om_763 {a0 a1 a2 : Int} (h0 : (0 ≤ a1) ∧ (a1 ≤ 20)) (h1 : ¬ (30 < a2)) (h2 : a0 = (21 * a2)) : (a0 + a1) < 2147483648 := by omega
theorem om_764 {a0 a1 a2 a3 : Int} (h0 : (0 ≤ a1) ∧ (a1 ≤ 20)) (h1 : (0 ≤ a2) ∧ (a2 ≤ 2147483647)) (h2 : a3 = (21 * a2)) (h3 : a0 = (a3 + a1)) : 0 ≤ a0 := by omega
theorem om_765 {a0 a1 a2 a3 : Int} (h0 : (0 ≤ a1) ∧ (a1 ≤ 20)) (h1 : ¬ (30 < a2)) (h2 : a3 = (21 * a2)) (h3 : a0 = (a3 + a1)) : a0 < 651 := by omega
theorem om_766 {a0 : Int} (h0 : (0 ≤ a0) ∧ (a0 ≤ 20)) : 0 ≤ a0 := by omega
theorem om_767 {a0 : Int} (h0 : (0 ≤ a0) ∧ (a0 ≤ 20)) : a0 ≤ 20 := by omega
theorem om_768 {a0 : Int} (h0 : ¬ (20 < a0)) : a0 ≤ 20 := by omega
theorem Xu_0 {v : Nat → Int32} {x : Int32} (h : XI v) (h1 : (0 : Int) ≤ x.toInt) (h2 : x.toInt ≤ 100000) : XI (upd v 0 x) := XI.upd h h1 h2
theorem Xb_0 {v : Nat → Int32} (h : XI v) : (0 : Int) ≤ (v 0).toInt ∧ (v 0).toInt ≤ 100000 := XI.b h 0 (by decide)
theorem Xu_1 {v : Nat → Int32} {x : Int32} (h : XI v) (h1 : (0 : Int) ≤ x.toInt) (h2 : x.toInt ≤ 1600) : XI (upd v 1 x) := XI.upd h h1 h2
theorem Xb_1 {v : Nat → Int32} (h : XI v) : (0 : Int) ≤ (v 1).toInt ∧ (v 1).toInt ≤ 1600 := XI.b h 1 (by decide)
theorem Xu_2 {v : Nat → Int32} {x : Int32} (h : XI v) (h1 : (-2147483648 : Int) ≤ x.toInt) (h2 : x.toInt ≤ 2147483647) : XI (upd v 2 x) := XI.upd h h1 h2
theorem Xu_3 {v : Nat → Int32} {x : Int32} (h : XI v) (h1 : (0 : Int) ≤ x.toInt) (h2 : x.toInt ≤ 1600) : XI (upd v 3 x) := XI.upd h h1 h2
theorem Xb_3 {v : Nat → Int32} (h : XI v) : (0 : Int) ≤ (v 3).toInt ∧ (v 3).toInt ≤ 1600 := XI.b h 3 (by decide)
theorem Xu_4 {v : Nat → Int32} {x : Int32} (h : XI v) (h1 : (0 : Int) ≤ x.toInt) (h2 : x.toInt ≤ 1600) : XI (upd v 4 x) := XI.upd h h1 h2
theorem Xb_4 {v : Nat → Int32} (h : XI v) : (0 : Int) ≤ (v 4).toInt ∧ (v 4).toInt ≤ 1600 := XI.b h 4 (by decide)
theorem Xu_5 {v : Nat → Int32} {x : Int32} (h : XI v) (h1 : (-2147483648 : Int) ≤ x.toInt) (h2 : x.toInt ≤ 2147483647) : XI (upd v 5 x) := XI.upd h h1 h2
theorem Xu_6 {v : Nat → Int32} {x : Int32} (h : XI v) (h1 : (-2147483648 : Int) ≤ x.toInt) (h2 : x.toInt ≤ 2147483647) : XI (upd v 6 x) := XI.upd h h1 h2
theorem Xu_7 {v : Nat → Int32} {x : Int32} (h : XI v) (h1 : (-2147483648 : Int) ≤ x.toInt) (h2 : x.toInt ≤ 2147483647) : XI (upd v 7 x) := XI.upd h h1 h2
theorem Xu_8 {v : Nat → Int32} {x : Int32} (h : XI v) (h1 : (-2147483648 : Int) ≤ x.toInt) (h2 : x.toInt ≤ 2147483647) : XI (upd v 8 x) := XI.upd h h1 h2
theorem Xu_9 {v : Nat → Int32} {x : Int32} (h : XI v) (h1 : (0 : Int) ≤ x.toInt) (h2 : x.toInt ≤ 6) : XI (upd v 9 x) := XI.upd h h1 h2
theorem Xb_9 {v : Nat → Int32} (h : XI v) : (0 : Int) ≤ (v 9).toInt ∧ (v 9).toInt ≤ 6 := XI.b h 9 (by decide)
theorem Xu_10 {v : Nat → Int32} {x : Int32} (h : XI v) (h1 : (0 : Int) ≤ x.toInt) (h2 : x.toInt ≤ 6) : XI (upd v 10 x) := XI.upd h h1 h2
theorem Xb_10 {v : Nat → Int32} (h : XI v) : (0 : Int) ≤ (v 10).toInt ∧ (v 10).toInt ≤ 6 := XI.b h 10 (by decide)
theorem Xu_11 {v : Nat → Int32} {x : Int32} (h : XI v) (h1 : (-2147483648 : Int) ≤ x.toInt) (h2 : x.toInt ≤ 2147483647) : XI (upd v 11 x) := XI.upd h h1 h2
theorem Xu_12 {v : Nat → Int32} {x : Int32} (h : XI v) (h1 : (-2147483648 : Int) ≤ x.toInt) (h2 : x.toInt ≤ 2147483647) : XI (upd v 12 x) := XI.upd h h1 h2
theorem Xu_13 {v : Nat → Int32} {x : Int32} (h : XI v) (h1 : (-2147483648 : Int) ≤ x.toInt) (h2 : x.toInt ≤ 2147483647) : XI (upd v 13 x) := XI.upd h h1 h2
theorem Xu_14 {v : Nat → Int32} {x : Int32} (h : XI v) (h1 : (-2147483648 : Int) ≤ x.toInt) (h2 : x.toInt ≤ 2147483647) : XI (upd v 14 x) := XI.upd h h1 h2
theorem Xu_15 {v : Nat → Int32} {x : Int32} (h : XI v) (h1 : (-2147483648 : Int) ≤ x.toInt) (h2 : x.toInt ≤ 2147483647) : XI (upd v 15 x) := XI.upd h h1 h2
theorem Xu_16 {v : Nat → Int32} {x : Int32} (h : XI v) (h1 : (0 : Int) ≤ x.toInt) (h2 : x.toInt ≤ 300) : XI (upd v 16 x) := XI.upd h h1 h2
theorem Xb_16 {v : Nat → Int32} (h : XI v) : (0 : Int) ≤ (v 16).toInt ∧ (v 16).toInt ≤ 300 := XI.b h 16 (by decide)
theorem Xu_17 {v : Nat → Int32} {x : Int32} (h : XI v) (h1 : (-2147483648 : Int) ≤ x.toInt) (h2 : x.toInt ≤ 2147483647) : XI (upd v 17 x) := XI.upd h h1 h2
theorem Xu_18 {v : Nat → Int32} {x : Int32} (h : XI v) (h1 : (0 : Int) ≤ x.toInt) (h2 : x.toInt ≤ 300) : XI (upd v 18 x) := XI.upd h h1 h2
theorem Xb_18 {v : Nat → Int32} (h : XI v) : (0 : Int) ≤ (v 18).toInt ∧ (v 18).toInt ≤ 300 := XI.b h 18 (by decide)
theorem Xu_19 {v : Nat → Int32} {x : Int32} (h : XI v) (h1 : (-2147483648 : Int) ≤ x.toInt) (h2 : x.toInt ≤ 2147483647) : XI (upd v 19 x) := XI.upd h h1 h2
theorem Xu_20 {v : Nat → Int32} {x : Int32} (h : XI v) (h1 : (-2147483648 : Int) ≤ x.toInt) (h2 : x.toInt ≤ 2147483647) : XI (upd v 20 x) := XI.upd h h1 h2
theorem Xu_21 {v : Nat → Int32} {x : Int32} (h : XI v) (h1 : (-2147483648 : Int) ≤ x.toInt) (h2 : x.toInt ≤ 2147483647) : XI (upd v 21 x) := XI.upd h h1 h2
theorem Xu_22 {v : Nat → Int32} {x : Int32} (h : XI v) (h1 : (-2147483648 : Int) ≤ x.toInt) (h2 : x.toInt ≤ 2147483647) : XI (upd v 22 x) := XI.upd h h1 h2
theorem Xu_23 {v : Nat → Int32} {x : Int32} (h : XI v) (h1 : (-2147483648 : Int) ≤ x.toInt) (h2 : x.toInt ≤ 2147483647) : XI (upd v 23 x) := XI.upd h h1 h2
theorem Xu_24 {v : Nat → Int32} {x : Int32} (h : XI v) (h1 : (-2147483648 : Int) ≤ x.toInt) (h2 : x.toInt ≤ 2147483647) : XI (upd v 24 x) := XI.upd h h1 h2
theorem Xu_25 {v : Nat → Int32} {x : Int32} (h : XI v) (h1 : (-2147483648 : Int) ≤ x.toInt) (h2 : x.toInt ≤ 2147483647) : XI (upd v 25 x) := XI.upd h h1 h2
theorem Xu_26 {v : Nat → Int32} {x : Int32} (h : XI v) (h1 : (-2147483648 : Int) ≤ x.toInt) (h2 : x.toInt ≤ 2147483647) : XI (upd v 26 x) := XI.upd h h1 h2
theorem Xu_27 {v : Nat → Int32} {x : Int32} (h : XI v) (h1 : (-2147483648 : Int) ≤ x.toInt) (h2 : x.toInt ≤ 2147483647) : XI (upd v 27 x) := XI.upd h h1 h2
theorem Xu_28 {v : Nat → Int32} {x : Int32} (h : XI v) (h1 : (-2147483648 : Int) ≤ x.toInt) (h2 : x.toInt ≤ 2147483647) : XI (upd v 28 x) := XI.upd h h1 h2
theorem Xu_29 {v : Nat → Int32} {x : Int32} (h : XI v) (h1 : (-2147483648 : Int) ≤ x.toInt) (h2 : x.toInt ≤ 2147483647) : XI (upd v 29 x) := XI.upd h h1 h2
theorem Xu_30 {v : Nat → Int32} {x : Int32} (h : XI v) (h1 : (-2147483648 : Int) ≤ x.toInt) (h2 : x.toInt ≤ 2147483647) : XI (upd v 30 x) := XI.upd h h1 h2
theorem Xu_31 {v : Nat → Int32} {x : Int32} (h : XI v) (h1 : (0 : Int) ≤ x.toInt) (h2 : x.toInt ≤ 6) : XI (upd v 31 x) := XI.upd h h1 h2
theorem Xb_31 {v : Nat → Int32} (h : XI v) : (0 : Int) ≤ (v 31).toInt ∧ (v 31).toInt ≤ 6 := XI.b h 31 (by decide)
theorem Xu_32 {v : Nat → Int32} {x : Int32} (h : XI v) (h1 : (0 : Int) ≤ x.toInt) (h2 : x.toInt ≤ 6) : XI (upd v 32 x) := XI.upd h h1 h2
theorem Xb_32 {v : Nat → Int32} (h : XI v) : (0 : Int) ≤ (v 32).toInt ∧ (v 32).toInt ≤ 6 := XI.b h 32 (by decide)
theorem Xu_33 {v : Nat → Int32} {x : Int32} (h : XI v) (h1 : (-2147483648 : Int) ≤ x.toInt) (h2 : x.toInt ≤ 2147483647) : XI (upd v 33 x) := XI.upd h h1 h2
theorem Xu_34 {v : Nat → Int32} {x : Int32} (h : XI v) (h1 : (-2147483648 : Int) ≤ x.toInt) (h2 : x.toInt ≤ 2147483647) : XI (upd v 34 x) := XI.upd h h1 h2
theorem Xu_35 {v : Nat → Int32} {x : Int32} (h : XI v) (h1 : (-2147483648 : Int) ≤ x.toInt) (h2 : x.toInt ≤ 2147483647) : XI (upd v 35 x) := XI.upd h h1 h2
theorem Xu_36 {v : Nat → Int32} {x : Int32} (h : XI v) (h1 : (-2147483648 : Int) ≤ x.toInt) (h2 : x.toInt ≤ 2147483647) : XI (upd v 36 x) := XI.upd h h1 h2
theorem Xu_37 {v : Nat → Int32} {x : Int32} (h : XI v) (h1 : (-2147483648 : Int) ≤ x.toInt) (h2 : x.toInt ≤ 2147483647) : XI (upd v 37 x) := XI.upd h h1 h2
theorem Xu_38 {v : Nat → Int32} {x : Int32} (h : XI v) (h1 : (0 : Int) ≤ x.toInt) (h2 : x.toInt ≤ 6) : XI (upd v 38 x) := XI.upd h h1 h2
theorem Xb_38 {v : Nat → Int32} (h : XI v) : (0 : Int) ≤ (v 38).toInt ∧ (v 38).toInt ≤ 6 := XI.b h 38 (by decide)
theorem Xu_39 {v : Nat → Int32} {x : Int32} (h : XI v) (h1 : (-2147483648 : Int) ≤ x.toInt) (h2 : x.toInt ≤ 2147483647) : XI (upd v 39 x) := XI.upd h h1 h2
theorem Xu_40 {v : Nat → Int32} {x : Int32} (h : XI v) (h1 : (-2147483648 : Int) ≤ x.toInt) (h2 : x.toInt ≤ 2147483647) : XI (upd v 40 x) := XI.upd h h1 h2
theorem Xu_41 {v : Nat → Int32} {x : Int32} (h : XI v) (h1 : (0 : Int) ≤ x.toInt) (h2 : x.toInt ≤ 30) : XI (upd v 41 x) := XI.upd h h1 h2
theorem Xb_41 {v : Nat → Int32} (h : XI v) : (0 : Int) ≤ (v 41).toInt ∧ (v 41).toInt ≤ 30 := XI.b h 41 (by decide)
